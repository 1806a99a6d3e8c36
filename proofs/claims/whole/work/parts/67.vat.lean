set_option maxHeartbeats 4000000 in
theorem R_vat {σC σM : pm_M} (h : pm_R σC σM) {v : Nat} (hv : v < 3) (hb : σC 40 v = 0) {x y : Int} (hxy : (y = -9 ∧ x = -1) ∨ (y = x ∧ 0 ≤ y ∧ y < σC 22 3)) (hn : ∀ u, u < 3 → u ≠ v → 0 ≤ y → σC 38 u ≠ y) : pm_R (pm_up σC 38 v y) (pm_up σM 14 v x) := by
  obtain ⟨hrf, hrg, hmo, hor, hol, hwe, ⟨t1, t2, t3, t4, t5, t6⟩, hmr, htr⟩ := id h
  obtain ⟨u1, u2, u3, u4⟩ := id t3
  obtain ⟨v1, v2, v3⟩ := id t5
  obtain ⟨k1, k2, k3, k4, k5, k6, k7⟩ := id hmr
  simp only [Nat.reduceAdd] at u1 u2 u3 v1 v2
  refine ⟨hrf, hrg, hmo, hor, hol, hwe, ⟨t1, t2, t3, t4, ⟨?_, ?_, v3⟩, t6⟩, ⟨k1, k2, ?_, ?_, ?_, ?_, k7⟩, htr⟩
  · intro u hu
    obtain ⟨g1, g2, g3, g4⟩ := v1 u hu
    simp only [Nat.reduceAdd]
    by_cases e : u = v
    · subst e
      simp (disch := omega) only [pu_eq, pu_ne]
      exact ⟨hxy, g2, ⟨g3.1, g3.2.1, g3.2.2.1, fun _ => hb⟩, g4⟩
    · simp (disch := omega) only [pu_ne]
      exact ⟨g1, g2, g3, g4⟩
  · intro u w hu hw huw
    simp only [Nat.reduceAdd]
    by_cases e : u = v
    · subst e
      simp (disch := omega) only [pu_eq, pu_ne]
      intro q
      by_cases y0 : 0 ≤ y
      · exact absurd q.symm (hn w hw (fun q => huw q.symm) y0)
      · omega
    · by_cases e2 : w = v
      · subst e2
        simp (disch := omega) only [pu_eq, pu_ne]
        intro q
        by_cases y0 : 0 ≤ y
        · exact absurd q (hn u hu e y0)
        · omega
      · simp (disch := omega) only [pu_ne]
        exact v2 u w hu hw huw
  · intro u hu h0
    by_cases e : u = v
    · subst e
      simp (disch := omega) only [pu_eq, pu_ne] at h0 ⊢
      rw [hb]
      have z : σC 25 (2 * y.toNat) = σC 25 (2 * y.toNat + 1) := by
        by_cases c : σC 38 u = y
        · have := k3 u hu (by omega)
          rw [c, hb] at this
          omega
        · refine k4 y.toNat (by omega) (fun v' hv' => ?_)
          by_cases e : v' = u
          · subst e; omega
          · have := hn v' hv' e h0; omega
      omega
    · simp (disch := omega) only [pu_ne] at h0 ⊢
      exact k3 u hu h0
  · intro p hp hne
    by_cases c : σC 38 v = p
    · have := k3 v hv (by omega)
      rw [c, hb] at this
      simp (disch := omega) only [pu_ne]
      rw [Int.toNat_natCast] at this
      omega
    · refine k4 p hp (fun u hu => ?_)
      by_cases e : u = v
      · subst e; exact c
      · have := hne u hu
        simp (disch := omega) only [pu_ne] at this
        exact this
  · intro u q hu hq hb2 hk j hj
    have hb' : 0 < σC 40 u := hb2
    have e : u ≠ v := fun q => by subst q; omega
    simp (disch := omega) only [pu_ne] at hk ⊢
    exact k5 u q hu hq hb' hk j hj
  · intro u i j hu hi hj
    have hb' : (i : Int) < σC 40 u := hi
    have e : u ≠ v := fun q => by subst q; omega
    simp (disch := omega) only [pu_ne]
    exact k6 u i j hu hi hj
set_option maxHeartbeats 4000000 in
/-- is the pair at another vat, on both sides -/
theorem e_else {σC σM : pm_M} (t3 : T_mou 15 σC σM) (t5 : T_vat 15 σC σM) {v : Nat} (hv : v < 3) {x : Int} (hx : -1 ≤ x ∧ x < 4) : ∃ (s : Int) (y : Int × Int), (s = 0 ∨ s = 1) ∧ fX8_isPairElsewhere 15 v x σC = some s ∧ pm_it (fun a : Int × Int => bdX12_vat_53 v x σM a.1 a.2) pm_fuel (0, 0) = some y ∧ y.1 = s ∧ (s = 0 → ∀ u, u < 3 → u ≠ v → σC 38 u ≠ x) := by
  have F := fun v (hv : v < 3) => v_fact t3 t5 hv
  simp only [Nat.reduceAdd] at F
  unfold fX8_isPairElsewhere
  obtain ⟨y, y', e1, e2, hQ⟩ := pm_it_3 (f := fun a : Int => bdX8_isPairElsewhere_2 15 v x σC a) (g := fun a : Int × Int => bdX12_vat_53 v x σM a.1 a.2)
    (fun m a a' => ∃ z z' : Nat, a = z ∧ a'.2 = z' ∧ z ≤ z' ∧ z' ≤ 3 ∧ m = 3 - z' ∧ ((z = z' ∧ a'.1 = 0 ∧ ∀ u, u < z → u ≠ v → σC 38 u ≠ x) ∨ (z < z' ∧ a'.1 = 1 ∧ z ≠ v ∧ σC 38 z = x)))
    (fun y y' => (y'.1 = 1 ∧ ∃ k, y = .inl k) ∨ (y'.1 = 0 ∧ (∃ k, y = .inr k) ∧ ∀ u, u < 3 → u ≠ v → σC 38 u ≠ x)) (by
      rintro m a ⟨s, a'⟩ ⟨z, z', hz, hz', h1, h2, hm, h3⟩
      dsimp only at hz hz' h3 ⊢
      subst hz hz'
      rcases h3 with ⟨h3, h4, h5⟩ | ⟨h3, h4, h5, h6⟩
      · subst h3 h4
        by_cases c : z = 3
        · subst c
          refine Or.inl ⟨.inr ((3 : Nat) : Int), (0, ((3 : Nat) : Int)), ?_, ?_, Or.inr ⟨rfl, ⟨_, rfl⟩, h5⟩⟩
          · unfold bdX8_isPairElsewhere_2
            simp (disch := omega) only [wr_eq, if_pos, if_true]
          · unfold bdX12_vat_53
            simp (disch := omega) only [wr_eq, if_pos, if_true]
        · obtain ⟨g1, g2, ⟨g3, g4, g5⟩, g6, g7⟩ := F z (by omega)
          by_cases c0 : z = v
          · refine Or.inr (Or.inl ⟨(z : Int) + 1, (0, (z : Int) + 1), m - 1, ?_, ?_, by omega, z + 1, z + 1, by simp, by simp, by omega, by omega, by omega, Or.inl ⟨rfl, rfl, fun u hu hne => ?_⟩⟩)
            · unfold bdX8_isPairElsewhere_2
              simp (disch := omega) only [wr_eq, if_pos, if_neg, if_true, if_false]
            · unfold bdX12_vat_53
              simp (disch := omega) only [wr_eq, if_pos, if_neg, if_true, if_false]
            · exact h5 u (by omega) hne
          · by_cases c1 : σC 38 z = x
            · refine Or.inr (Or.inr (Or.inr ⟨(1, (z : Int) + 1), m - 1, ?_, by omega, z, z + 1, rfl, by simp, by omega, by omega, by omega, Or.inr ⟨by omega, rfl, c0, c1⟩⟩))
              unfold bdX12_vat_53
              simp (disch := omega) only [wr_eq, if_pos, if_neg, if_true, if_false, pm_gt, Int.toNat_natCast]
            · refine Or.inr (Or.inl ⟨(z : Int) + 1, (0, (z : Int) + 1), m - 1, ?_, ?_, by omega, z + 1, z + 1, by simp, by simp, by omega, by omega, by omega, Or.inl ⟨rfl, rfl, fun u hu hne => ?_⟩⟩)
              · unfold bdX8_isPairElsewhere_2
                simp (disch := omega) only [wr_eq, if_pos, if_neg, if_true, if_false, pm_gt, Int.toNat_natCast, Nat.reduceAdd]
              · unfold bdX12_vat_53
                by_cases c3 : x < 0
                · simp (disch := omega) only [wr_eq, if_pos, if_neg, if_true, if_false, pm_gt, Int.toNat_natCast]
                · simp (disch := omega) only [wr_eq, if_pos, if_neg, if_true, if_false, pm_gt, Int.toNat_natCast]
              · rcases Nat.lt_or_ge u z with q | q
                · exact h5 u q hne
                · rw [show u = z by omega]; exact c1
      · subst h4
        obtain ⟨g1, g2, ⟨g3, g4, g5⟩, g6, g7⟩ := F z (by omega)
        by_cases c : z' = 3
        · subst c
          refine Or.inl ⟨.inl (z : Int), (1, ((3 : Nat) : Int)), ?_, ?_, Or.inl ⟨rfl, ⟨_, rfl⟩⟩⟩
          · unfold bdX8_isPairElsewhere_2
            simp (disch := omega) only [wr_eq, if_pos, if_neg, if_true, if_false, pm_gt, Int.toNat_natCast, Nat.reduceAdd]
          · unfold bdX12_vat_53
            simp (disch := omega) only [wr_eq, if_pos, if_true]
        · refine Or.inr (Or.inr (Or.inr ⟨(1, (z' : Int) + 1), m - 1, ?_, by omega, z, z' + 1, rfl, by simp, by omega, by omega, by omega, Or.inr ⟨by omega, rfl, h5, h6⟩⟩))
          unfold bdX12_vat_53
          simp (disch := omega) only [wr_eq, if_pos, if_neg, if_true, if_false]) 3 pm_fuel pm_fuel 0 (0, 0)
    ⟨0, 0, rfl, rfl, by omega, by omega, rfl, Or.inl ⟨rfl, rfl, fun v hv => by omega⟩⟩ (pm_fl (by decide)) (pm_fl (by decide))
  rw [e1, e2, Option.bind_some]
  rcases hQ with ⟨q1, k, q2⟩ | ⟨q1, ⟨k, q2⟩, q3⟩
  · subst q2
    exact ⟨1, y', Or.inr rfl, rfl, rfl, q1, fun q => by omega⟩
  · subst q2
    exact ⟨0, y', Or.inl rfl, rfl, rfl, q1, fun _ => q3⟩
theorem e_vat1 {σM : pm_M} {v x : Int} : ∃ y : Int × Int, pm_it (fun a : Int × Int => bdX12_vat_53 v x σM a.1 a.2) pm_fuel (1, 0) = some y ∧ y.1 = 1 := by
  refine pm_it_ok (f := fun a : Int × Int => bdX12_vat_53 v x σM a.1 a.2) (fun a => a.1 = 1 ∧ ∃ z : Nat, a.2 = z ∧ z ≤ 3) (fun y => y.1 = 1) (fun a => 3 - a.2.toNat) ?_ pm_fuel (1, 0) ⟨rfl, 0, rfl, by omega⟩ (pm_fl (by decide))
  rintro ⟨s, a⟩ ⟨h1, z, h2, h3⟩
  dsimp only at h1 h2 ⊢
  subst h1 h2
  by_cases c : z = 3
  · subst c
    refine Or.inl ⟨(1, ((3 : Nat) : Int)), ?_, rfl⟩
    unfold bdX12_vat_53
    simp (disch := omega) only [wr_eq, if_pos, if_true]
  · refine Or.inr ⟨(1, (z : Int) + 1), ?_, ⟨rfl, z + 1, by simp, by omega⟩, by simp; omega⟩
    unfold bdX12_vat_53
    simp (disch := omega) only [wr_eq, if_pos, if_neg, if_true, if_false]
set_option maxHeartbeats 4000000 in
theorem p_vat {σC σM : pm_M} (h : pm_R σC σM) {v : Nat} (hv : v < 3) {x : Int} (hx : x = -1 ∨ 0 ≤ x ∧ x < σC 22 3) : pp_ pm_R (jnX11_vat_36 v x σC) (jnX12_vat_30 v x σM) := by
  obtain ⟨hrf, hrg, hmo, hor, hol, hwe, ⟨t1, t2, t3, t4, t5, t6⟩, hmr, htr⟩ := id h
  have F := v_fact t3 t5 hv
  have u3 : σC 22 3 ≤ 4 := t3.2.2.1
  simp only [Nat.reduceAdd] at F
  obtain ⟨g1, g2, ⟨g3, g4, g5⟩, g6, g7⟩ := F
  have i1 : Int.toNat (105 + 2 * (v : Int)) = 105 + 2 * v := by omega
  unfold jnX11_vat_36 jnX12_vat_30 jnX12_vat_49
  by_cases c1 : 0 < σC 40 v
  · obtain ⟨y, e1, e2⟩ := e_vat1 (σM := σM) (v := (v : Int)) (x := x)
    simp (disch := omega) only [wr_eq, pm_gt, if_pos, if_neg, if_true, if_false, Int.toNat_natCast, i1, ← g3, e1, Option.bind_some, e2]
    exact pp_ref h (by decide)
  · obtain ⟨s, y, hs, e1, e2, e3, e4⟩ := e_else t3 t5 hv (x := x) (by omega)
    rcases hs with hs | hs
    · subst hs
      have e5 := e4 rfl
      by_cases c2 : x = -1
      · simp (disch := omega) only [wr_eq, pm_gt, if_pos, if_neg, if_true, if_false, Int.toNat_natCast, i1, ← g3, e1, e2, Option.bind_some, e3]
        exact pp_ret rfl (R_vat h hv (by omega) (Or.inl ⟨rfl, c2⟩) (fun u _ _ q => by omega))
      · simp (disch := omega) only [wr_eq, pm_gt, if_pos, if_neg, if_true, if_false, Int.toNat_natCast, i1, ← g3, e1, e2, Option.bind_some, e3]
        exact pp_ret rfl (R_vat h hv (by omega) (Or.inr ⟨rfl, by omega, by omega⟩) (fun u hu hne _ => e5 u hu hne))
    · subst hs
      simp (disch := omega) only [wr_eq, pm_gt, if_pos, if_neg, if_true, if_false, Int.toNat_natCast, i1, ← g3, e1, e2, Option.bind_some, e3]
      exact pp_ref h (by decide)
set_option maxHeartbeats 4000000 in
theorem s_vat : sp_vat pm_R := by
  intro x1 x2 σC σM h
  show pp_ pm_R _ _
  have w1 := wr_to x1
  have w2 := wr_to x2
  generalize x1.toInt = a at w1 ⊢
  generalize x2.toInt = r at w2 ⊢
  have u1 : σC 22 3 = σM 0 16 := h.2.2.2.2.2.2.1.2.2.1.1
  have u2 : 0 ≤ σC 22 3 := h.2.2.2.2.2.2.1.2.2.1.2.1
  have u3 : σC 22 3 ≤ 4 := h.2.2.2.2.2.2.1.2.2.1.2.2.1
  have e : wr (σC 22 3) = σC 22 3 := wr_eq (by omega) (by omega)
  unfold fX11_vat fX12_vat
  rw [← u1, e_num w1 (wr_eq (by decide) (by decide)), e_in w1 (wr_eq (by decide) (by decide)), e_num w2 e, e_in w2 e, w2]
  refine pp_b (fun c1 => ?_) (fun _ => pp_ref h (by decide))
  obtain ⟨n, rfl⟩ := Int.eq_ofNat_of_zero_le c1.1
  refine pp_2 (fun c2 => p_vat h (by omega) (Or.inl c2)) (fun c2 => ?_)
  refine pp_b (fun c3 => p_vat h (by omega) (Or.inr c3)) (fun _ => pp_ref h (by decide))
