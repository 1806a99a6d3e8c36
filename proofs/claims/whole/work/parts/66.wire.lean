theorem v_fact {b : Nat} {σC σM : pm_M} (t3 : T_mou b σC σM) (t5 : T_vat b σC σM) {v : Nat} (hv : v < 3) : ((σC (b + 23) v = -9 ∧ σM 14 v = -1) ∨ (σC (b + 23) v = σM 14 v ∧ 0 ≤ σC (b + 23) v ∧ σC (b + 23) v < 4)) ∧ (σC (b + 24) v = σM 15 v ∧ 0 ≤ σC (b + 24) v ∧ σC (b + 24) v ≤ 8) ∧ (σC (b + 25) v = σM 25 (105 + 2 * v) ∧ 0 ≤ σC (b + 25) v ∧ σC (b + 25) v < 60) ∧ (σC (b + 23) v = -9 → σC (b + 25) v = 0) ∧ σC (b + 26) v = σM 25 (106 + 2 * v) := by
  have h4 : σC (b + 7) 3 ≤ 4 := t3.2.2.1
  obtain ⟨g1, g2, ⟨g3, g4, g5, g6⟩, g7⟩ := t5.1 v hv
  exact ⟨by omega, g2, ⟨g3, g4, g5⟩, g6, g7⟩
set_option maxHeartbeats 4000000 in
theorem e_begun {σC σM : pm_M} (t3 : T_mou 15 σC σM) (t5 : T_vat 15 σC σM) {p : Nat} (hp : p < 4) : ∃ s : Int, (s = 0 ∨ s = 1) ∧ fX8_isPairAtPost 15 p σC = some s ∧ fX12_isBegun p σM = some s ∧ (s = 0 → ∀ v, v < 3 → 0 < σC 40 v → σC 38 v ≠ p) := by
  have F := fun v (hv : v < 3) => v_fact t3 t5 hv
  simp only [Nat.reduceAdd] at F
  unfold fX8_isPairAtPost fX12_isBegun
  obtain ⟨y, y', e1, e2, hQ⟩ := pm_it_3 (f := fun a : Int => bdX8_isPairAtPost_2 15 p σC a) (g := fun a : Int × Int => bdX12_isBegun_4 p σM a.1 a.2)
    (fun m a a' => ∃ z z' : Nat, a = z ∧ a'.2 = z' ∧ z ≤ z' ∧ z' ≤ 3 ∧ m = 3 - z' ∧ ((z = z' ∧ a'.1 = 0 ∧ ∀ v, v < z → ¬ (σC 38 v = p ∧ 0 < σC 40 v)) ∨ (z < z' ∧ a'.1 = 1 ∧ σC 38 z = p ∧ 0 < σC 40 z)))
    (fun y y' => (y'.1 = 1 ∧ ∃ k, y = .inl k) ∨ (y'.1 = 0 ∧ (∃ k, y = .inr k) ∧ ∀ v, v < 3 → ¬ (σC 38 v = p ∧ 0 < σC 40 v))) (by
      rintro m a ⟨s, a'⟩ ⟨z, z', hz, hz', h1, h2, hm, h3⟩
      dsimp only at hz hz' h3 ⊢
      subst hz hz'
      rcases h3 with ⟨h3, h4, h5⟩ | ⟨h3, h4, h5, h6⟩
      · subst h3 h4
        by_cases c : z = 3
        · subst c
          refine Or.inl ⟨.inr ((3 : Nat) : Int), (0, ((3 : Nat) : Int)), ?_, ?_, Or.inr ⟨rfl, ⟨_, rfl⟩, h5⟩⟩
          · unfold bdX8_isPairAtPost_2
            simp (disch := omega) only [wr_eq, if_pos, if_true]
          · unfold bdX12_isBegun_4
            simp (disch := omega) only [wr_eq, if_pos, if_true]
        · obtain ⟨g1, g2, ⟨g3, g4, g5⟩, g6, g7⟩ := F z (by omega)
          have i1 : Int.toNat (105 + 2 * (z : Int)) = 105 + 2 * z := by omega
          by_cases c1 : σC 38 z = p
          · by_cases c2 : 0 < σC 40 z
            · refine Or.inr (Or.inr (Or.inr ⟨(1, (z : Int) + 1), m - 1, ?_, by omega, z, z + 1, rfl, by simp, by omega, by omega, by omega, Or.inr ⟨by omega, rfl, c1, c2⟩⟩))
              unfold bdX12_isBegun_4
              simp (disch := omega) only [wr_eq, if_pos, if_neg, if_true, if_false, pm_gt, Int.toNat_natCast, i1]
            · refine Or.inr (Or.inl ⟨(z : Int) + 1, (0, (z : Int) + 1), m - 1, ?_, ?_, by omega, z + 1, z + 1, by simp, by simp, by omega, by omega, by omega, Or.inl ⟨rfl, rfl, fun v hv => ?_⟩⟩)
              · unfold bdX8_isPairAtPost_2
                simp (disch := omega) only [wr_eq, if_pos, if_neg, if_true, if_false, pm_gt, Int.toNat_natCast, Nat.reduceAdd]
              · unfold bdX12_isBegun_4
                simp (disch := omega) only [wr_eq, if_pos, if_neg, if_true, if_false, pm_gt, Int.toNat_natCast, i1]
              · rcases Nat.lt_or_ge v z with q | q
                · exact h5 v q
                · rw [show v = z by omega]; omega
          · refine Or.inr (Or.inl ⟨(z : Int) + 1, (0, (z : Int) + 1), m - 1, ?_, ?_, by omega, z + 1, z + 1, by simp, by simp, by omega, by omega, by omega, Or.inl ⟨rfl, rfl, fun v hv => ?_⟩⟩)
            · unfold bdX8_isPairAtPost_2
              simp (disch := omega) only [wr_eq, if_pos, if_neg, if_true, if_false, pm_gt, Int.toNat_natCast, Nat.reduceAdd]
            · unfold bdX12_isBegun_4
              simp (disch := omega) only [wr_eq, if_pos, if_neg, if_true, if_false, pm_gt, Int.toNat_natCast, i1]
            · rcases Nat.lt_or_ge v z with q | q
              · exact h5 v q
              · rw [show v = z by omega]; omega
      · subst h4
        obtain ⟨g1, g2, ⟨g3, g4, g5⟩, g6, g7⟩ := F z (by omega)
        by_cases c : z' = 3
        · subst c
          refine Or.inl ⟨.inl (z : Int), (1, ((3 : Nat) : Int)), ?_, ?_, Or.inl ⟨rfl, ⟨_, rfl⟩⟩⟩
          · unfold bdX8_isPairAtPost_2
            simp (disch := omega) only [wr_eq, if_pos, if_neg, if_true, if_false, pm_gt, Int.toNat_natCast, Nat.reduceAdd]
          · unfold bdX12_isBegun_4
            simp (disch := omega) only [wr_eq, if_pos, if_true]
        · refine Or.inr (Or.inr (Or.inr ⟨(1, (z' : Int) + 1), m - 1, ?_, by omega, z, z' + 1, rfl, by simp, by omega, by omega, by omega, Or.inr ⟨by omega, rfl, h5, h6⟩⟩))
          unfold bdX12_isBegun_4
          simp (disch := omega) only [wr_eq, if_pos, if_neg, if_true, if_false]) 3 pm_fuel pm_fuel 0 (0, 0)
    ⟨0, 0, rfl, rfl, by omega, by omega, rfl, Or.inl ⟨rfl, rfl, fun v hv => by omega⟩⟩ (pm_fl (by decide)) (pm_fl (by decide))
  rw [e1, e2, Option.bind_some, Option.bind_some]
  obtain ⟨y1, y2⟩ := y'
  rcases hQ with ⟨q1, k, q2⟩ | ⟨q1, ⟨k, q2⟩, q3⟩
  · dsimp only at q1
    subst q1 q2
    exact ⟨1, Or.inr rfl, rfl, pm_gt (Or.inr rfl), fun q => by omega⟩
  · dsimp only at q1
    subst q1 q2
    exact ⟨0, Or.inl rfl, rfl, pm_gt (Or.inl rfl), fun _ v hv hb he => q3 v hv ⟨he, hb⟩⟩
set_option maxHeartbeats 4000000 in
theorem s_wire : sp_wire pm_R := by
  intro x1 x2 x3 σC σM h
  show pp_ pm_R _ _
  have w1 := wr_to x1
  have w2 := wr_to x2
  have w3 := wr_to x3
  generalize x1.toInt = a at w1 ⊢
  generalize x2.toInt = r at w2 ⊢
  generalize x3.toInt = x at w3 ⊢
  obtain ⟨hrf, hrg, hmo, hor, hol, hwe, ⟨t1, t2, t3, t4, t5, t6⟩, hmr, htr⟩ := id h
  obtain ⟨u1, u2, u3, u4, u5, u6⟩ := id t3
  obtain ⟨k1, k2, k3, k4, k5, k6, k7⟩ := id hmr
  have F := fun v (hv : v < 3) => v_fact t3 t5 hv
  simp only [Nat.reduceAdd] at u1 u2 u3 u4 u5 u6 F
  have e : wr (2 * σC 22 3) = 2 * σC 22 3 := wr_eq (by omega) (by omega)
  have e2 : pm_g ((if 0 ≤ a ∧ a < 2 * σC 22 3 then (1 : Int) else 0) = 0 ∨ (if 0 ≤ a ∧ a < 2 * σC 22 3 then (1 : Int) else 0) = 1) (some (if 0 ≤ a ∧ a < 2 * σC 22 3 then (1 : Int) else 0)) = some (if 0 ≤ a ∧ a < 2 * σC 22 3 then 1 else 0) := by
    unfold pm_g
    rw [if_pos (by split <;> simp)]
  unfold fX11_wire fX12_wire fX11_isMould
  rw [← u1, e_num w1 e, e_in w1 e, Option.bind_some, e2, e_num w2 (wr_eq (by decide) (by decide)), e_in w2 (wr_eq (by decide) (by decide))]
  refine pp_b (fun c1 => ?_) (fun _ => pp_ref h (by decide))
  refine pp_b (fun c2 => ?_) (fun _ => pp_ref h (by decide))
  obtain ⟨n, rfl⟩ := Int.eq_ofNat_of_zero_le c1.1
  obtain ⟨w, rfl⟩ := Int.eq_ofNat_of_zero_le c2.1
  have e3 : Int.tdiv (wr (n : Int)) 2 = ((n / 2 : Nat) : Int) := by
    rw [w1, Int.tdiv_eq_ediv_of_nonneg (by omega)]
    omega
  rw [e3]
  obtain ⟨s, hs, s1, s2, s3⟩ := e_begun t3 t5 (p := n / 2) (by omega)
  rw [s1, s2, Option.bind_some, Option.bind_some, e_wrong w3 wr_0, Option.bind_some, w3]
  rcases hs with hs | hs
  · subst hs
    have s4 := s3 rfl
    rw [if_pos wr_0, if_pos wr_0]
    have i1 : Int.toNat ((n : Int) * 6 + w) = 6 * n + w := by omega
    have i2 : Int.toNat (6 * (n : Int) + w) = 6 * n + w := by omega
    by_cases c3 : 0 ≤ x
    · by_cases c4 : x ≤ 99
      · unfold fX3_wireOf fX3_setWire
        simp (disch := omega) only [wr_eq, pm_gt, Option.bind_some, if_pos, Nat.reduceAdd, i1, i2]
        refine pp_ret (k1 (6 * n + w) (by omega)).1 ?_
        refine ⟨hrf, hrg, hmo, hor, hol, hwe, ⟨t1, t2, ⟨u1, u2, u3, u4, ?_, u6⟩, t4, t5, t6⟩, ⟨?_, k2, k3, k4, ?_, ?_, k7⟩, htr⟩
        · intro i hi
          simp only [Nat.reduceAdd]
          by_cases ei : i = 6 * n + w
          · rw [pu_eq ⟨rfl, ei⟩]; exact ⟨c3, c4⟩
          · rw [pu_ne (Or.inr ei)]; exact u5 i hi
        · simp only [pm_up_c]
          exact r_eq_up k1 c3 c4
        · intro v q hv hq hb hk j hj
          have hb' : 0 < σC 40 v := hb
          have z := k5 v q hv hq hb hk j hj
          have y := s4 v hv hb'
          obtain ⟨g1, g2, ⟨g3, g4, g5⟩, g6, g7⟩ := F v hv
          show σC 42 (12 * v + 6 * q + j) = pm_up σC 24 (6 * n + w) x 24 (12 * (σC 38 v).toNat + 6 * q + j)
          rw [pu_ne (by omega)]
          exact z
        · intro v i j hv hi hj
          have hb' : (i : Int) < σC 40 v := hi
          have z := k6 v i j hv hi hj
          have y := s4 v hv (by omega)
          obtain ⟨g1, g2, ⟨g3, g4, g5⟩, g6, g7⟩ := F v hv
          show σM 23 (6 * (60 * v + i) + j) = if ((i / 2 : Nat) : Int) < k_E (σC 25 (2 * (σC 38 v).toNat + i % 2)) (k_n (σC 40 v) (i % 2)) then σC 42 (12 * v + 6 * (i % 2) + j) else pm_up σC 24 (6 * n + w) x 24 (12 * (σC 38 v).toNat + 6 * (i % 2) + j)
          rw [pu_ne (by omega)]
          exact z
      · simp (disch := omega) only [wr_eq, if_pos, if_neg, if_true, if_false]
        exact pp_ref h (by decide)
    · simp (disch := omega) only [wr_eq, if_pos, if_neg, if_true, if_false]
      exact pp_ref h (by decide)
  · subst hs
    rw [if_neg (by decide), if_neg (by decide)]
    exact pp_ref h (by decide)
