/-! ===== foretell, when ===== -/
theorem e_135n {τ : pm_M} {w u : Int} (h : wr w ≠ 4) : pm_it (fun a : Int × Int => bdX12_foretell_135 w τ a.1 a.2) pm_fuel (u, 0) = some (u, 0) := by
  show pm_it _ (99999 + 1) _ = _
  unfold pm_it
  have e : bdX12_foretell_135 w τ u 0 = some (.inl (u, 0)) := by
    unfold bdX12_foretell_135
    rw [if_neg (by decide), if_neg h]
  dsimp only
  rw [e]
  rfl
set_option maxHeartbeats 4000000 in
theorem e_pulps {σ τ : pm_M} (h : ∀ i, i < 9 → σ 49 i = τ 25 (96 + i)) : ∃ (s z : Int), fX10_pulpOfAll 48 σ = some s ∧ pm_it (fun a : Int × Int => bdX12_foretell_135 4 τ a.1 a.2) pm_fuel (0, 0) = some (s, z) := by
  unfold fX10_pulpOfAll
  obtain ⟨y, y', e1, e2, hQ⟩ := pm_it_2 (f := fun a : Int × Int => bdX10_pulpOfAll_4 48 σ a.1 a.2) (g := fun a : Int × Int => bdX12_foretell_135 4 τ a.1 a.2)
    (fun m a a' => a.1 = a'.1 ∧ ∃ z : Nat, a.2 = z ∧ a'.2 = z ∧ z ≤ 9 ∧ m = 9 - z) (fun y y' => y.1 = y'.1) (by
      rintro m ⟨k, z0⟩ ⟨k', z0'⟩ ⟨hk, z, hz, hz', hle, hm⟩
      dsimp only at hk hz hz' ⊢
      subst hk hz hz'
      by_cases c : z = 9
      · subst c
        refine Or.inl ⟨(k, ((9 : Nat) : Int)), (k, ((9 : Nat) : Int)), ?_, ?_, rfl⟩
        · unfold bdX10_pulpOfAll_4
          simp (disch := omega) only [wr_eq, if_pos, if_true]
        · unfold bdX12_foretell_135
          simp (disch := omega) only [wr_eq, if_pos, if_true]
      · have i1 : Int.toNat (96 + (z : Int)) = 96 + z := by omega
        refine Or.inr ⟨(k + σ 49 z, (z : Int) + 1), (k + σ 49 z, (z : Int) + 1), m - 1, ?_, ?_, by omega, rfl, z + 1, by simp, by simp, by omega, by omega⟩
        · unfold bdX10_pulpOfAll_4
          simp (disch := omega) only [wr_eq, if_neg, if_false, pm_gt, Int.toNat_natCast, Nat.reduceAdd]
        · unfold bdX12_foretell_135
          simp (disch := omega) only [wr_eq, if_neg, if_pos, if_true, if_false, pm_gt, i1, h z (by omega)]) pm_fuel 9 (0, 0) (0, 0) ⟨rfl, 0, rfl, rfl, by omega, rfl⟩ (pm_fl (by decide))
  rw [e1, Option.bind_some]
  obtain ⟨y1, y2⟩ := y
  obtain ⟨x1, x2⟩ := y'
  dsimp only at hQ
  subst hQ
  exact ⟨y1, x2, rfl, e2⟩
set_option maxHeartbeats 4000000 in
theorem s_foretell : sp_foretell pm_R := by
  intro x1 x2 σC σM h
  show pp_ pm_R _ _
  have w1 := wr_to x1
  have w2 := wr_to x2
  generalize x1.toInt = a at w1 ⊢
  generalize x2.toInt = r at w2 ⊢
  obtain ⟨n1, n2, n3, n4⟩ := h.2.2.2.2.2.2.1.1
  have n1' : σM 25 (Int.toNat 751) = σC 15 7 := n1.symm
  have em : wr (pm_min 240 (2400 - σC 15 7)) = (if 2400 - σC 15 7 < 240 then 2400 - σC 15 7 else 240) := by
    unfold pm_min
    by_cases q : 2400 - σC 15 7 < 240
    · simp (disch := omega) only [wr_eq, if_pos]
    · simp (disch := omega) only [wr_eq, if_neg]
  unfold fX11_foretell fX12_foretell jnX12_foretell_36
  rw [e_num w2 (wr_eq (by decide) (by decide)), e_in w2 (wr_eq (by decide) (by decide)), n1', e_wrong w1 wr_1, em, w1, w2, wr_eq (x := 2400 - σC 15 7) (by omega) (by omega)]
  refine pp_b (fun c1 => ?_) (fun _ => ?_)
  · rw [Option.bind_some]
    by_cases c2 : 1 ≤ a
    · rw [if_pos c2, if_pos c2]
      by_cases c3 : a ≤ 240 ∧ a ≤ 2400 - σC 15 7
      · have c4 : a ≤ (if 2400 - σC 15 7 < 240 then 2400 - σC 15 7 else 240) := by split <;> omega
        rw [if_neg (show ¬ 240 < a by omega), if_pos c3.2, if_pos c4, if_pos wr_0]
        obtain ⟨n, rfl⟩ := Int.eq_ofNat_of_zero_le (show 0 ≤ a by omega)
        obtain ⟨σ, τ, d1, d2, d3, d4, -, d5⟩ := h_dream h
        obtain ⟨z, σ2, τ2, k1, k2, k3, k4, k5⟩ := h_pass (b := 48) (y3 := r) (n := n) (by decide) d3 (by omega)
        have k2' : pm_it (fun a : Int × pm_M => bdX12_foretell_54 n r a.1 a.2) pm_fuel (0, τ) = some (z, τ2) := k2
        obtain ⟨τ3, d6, d7⟩ := d5 σ2 τ2 k4
        rw [d1, d2, Option.bind_some, Option.bind_some, k1, Option.bind_some, k2', Option.bind_some]
        dsimp only
        unfold jnX12_foretell_130
        rcases (show r = 0 ∨ r = 1 ∨ r = 2 ∨ r = 3 ∨ r = 4 by omega) with rfl | rfl | rfl | rfl | rfl
        · rw [if_pos rfl, if_pos rfl, e_135n (by decide), Option.bind_some, d6, Option.bind_some]
          exact pp_ret k3.1.2.2.2.1.1 d7
        · rw [if_neg (by decide), if_pos rfl, if_neg (by decide), if_pos rfl, e_dried k3.1.2.2.2.1, Option.bind_some, e_135n (by decide), Option.bind_some, d6, Option.bind_some]
          exact pp_ret rfl d7
        · rw [if_neg (by decide), if_neg (by decide), if_pos rfl, if_neg (by decide), if_neg (by decide), if_pos rfl, e_135n (by decide), Option.bind_some, d6, Option.bind_some]
          exact pp_ret k3.1.2.2.2.2.1.2.2 d7
        · rw [if_neg (by decide), if_neg (by decide), if_neg (by decide), if_pos rfl, if_neg (by decide), if_neg (by decide), if_neg (by decide), if_pos rfl, e_135n (by decide), Option.bind_some, d6, Option.bind_some]
          exact pp_ret k3.1.2.2.2.2.2.2.2.2.1 d7
        · rw [if_neg (by decide), if_neg (by decide), if_neg (by decide), if_neg (by decide), if_neg (by decide), if_neg (by decide), if_neg (by decide), if_neg (by decide)]
          obtain ⟨s, z2, q1, q2⟩ := e_pulps k3.1.1.2.2.2
          rw [q1, q2, Option.bind_some, Option.bind_some, d6, Option.bind_some]
          exact pp_ret rfl d7
      · have c4 : ¬ a ≤ (if 2400 - σC 15 7 < 240 then 2400 - σC 15 7 else 240) := by split <;> omega
        rw [if_neg c4, if_neg (show ¬ wr (-6) = 0 by decide)]
        by_cases c5 : 240 < a
        · rw [if_pos c5]
          exact pp_ref h (by decide)
        · rw [if_neg c5, if_neg (show ¬ a ≤ 2400 - σC 15 7 by omega)]
          exact pp_ref h (by decide)
    · rw [if_neg c2, if_neg c2, if_neg (by decide)]
      exact pp_ref h (by decide)
  · rw [if_neg (by decide)]
    exact pp_ref h (by decide)
/-- one hour of a pass -/
theorem e_pass1 {b : Nat} {σ σ' : pm_M} (hh : 0 ≤ σ b 7 ∧ σ b 7 < 2400) (h : fX10_passOne b σ = some σ') : fX10_pass b 1 σ = some σ' := by
  unfold fX10_pass
  have e0 : bdX10_pass_2 b 1 0 σ = some (.inr (0 + 1, σ')) := by
    unfold bdX10_pass_2
    simp (disch := omega) only [wr_eq, if_neg, if_false, h, Option.bind_some]
  have e1 : bdX10_pass_2 b 1 (0 + 1) σ' = some (.inl (0 + 1, σ')) := by
    unfold bdX10_pass_2
    rw [if_pos (by decide)]
  have e : pm_it (fun a : Int × pm_M => bdX10_pass_2 b 1 a.1 a.2) pm_fuel (0, σ) = some (0 + 1, σ') := by
    show pm_it _ (99998 + 1 + 1) _ = _
    unfold pm_it
    dsimp only
    rw [e0, Option.bind_some]
    dsimp only
    unfold pm_it
    dsimp only
    rw [e1]
    rfl
  rw [e]
  rfl
set_option maxHeartbeats 4000000 in
theorem s_when : sp_when pm_R := by
  intro x1 σC σM h
  show pp_ pm_R _ _
  have w1 := wr_to x1
  generalize x1.toInt = a at w1 ⊢
  obtain ⟨n1, n2, n3, n4⟩ := h.2.2.2.2.2.2.1.1
  unfold fX11_when fX12_when
  rw [e_wrong w1 wr_0, Option.bind_some, w1, wr_eq (x := 80) (by decide) (by decide)]
  by_cases c1 : 0 ≤ a
  · rw [if_pos c1, if_pos c1]
    by_cases c2 : a ≤ 80
    · rw [if_pos c2, if_pos c2, if_pos wr_0]
      obtain ⟨σ, τ, d1, d2, d3, d4, d4', d5⟩ := h_dream h
      rw [d1, d2, Option.bind_some, Option.bind_some, d4']
      have em : wr (pm_min (σC 15 7 + 240) 2400) = (if 2400 < σC 15 7 + 240 then 2400 else σC 15 7 + 240) := by
        unfold pm_min
        by_cases q : 2400 < σC 15 7 + 240
        · simp (disch := omega) only [wr_eq, if_pos]
        · simp (disch := omega) only [wr_eq, if_neg]
      obtain ⟨y, y', e1, e2, hQ⟩ := pm_it_2 (f := fun b : Int × pm_M => bdX11_when_55 a (pm_min (σC 15 7 + 240) 2400) b.1 b.2) (g := fun b : Int × pm_M => bdX12_when_24 a b.1 b.2)
        (fun m b b' => (∃ z : Nat, b.1 = σC 15 7 + z ∧ b'.1 = z ∧ z ≤ 240 ∧ m = 240 - z ∧ b.2 48 7 = σC 15 7 + z) ∧ H_S 48 b.2 b'.2 ∧ H_F 48 σ τ b.2 b'.2)
        (fun y y' => H_S 48 y.2 y'.2 ∧ H_F 48 σ τ y.2 y'.2 ∧ y.1 = y.2 48 7) (by
          rintro m ⟨z0, ρ⟩ ⟨z0', π⟩ ⟨⟨z, hz, hz', hle, hm, h7⟩, hS, hF⟩
          dsimp only at hz hz' h7 hS hF ⊢
          subst hz hz'
          obtain ⟨q1, q2, q3, q4⟩ := hS.1.1
          obtain ⟨p1, p2, p3, p4, p5, -⟩ := hS.1.2.2.2.1
          simp only [Nat.reduceAdd] at p1 p2 p3 p4 p5
          have dr := e_dried hS.1.2.2.2.1
          simp only [Nat.reduceAdd] at dr
          have q1' : π 25 (Int.toNat 751) = σC 15 7 + z := by rw [← h7]; exact q1.symm
          by_cases c3 : 240 ≤ z ∨ a ≤ ρ 59 10 ∨ 2400 ≤ σC 15 7 + z
          · refine Or.inl ⟨(σC 15 7 + z, ρ), ((z : Int), π), ?_, ?_, hS, hF, h7.symm⟩
            · unfold bdX11_when_55
              rw [em]
              by_cases c4 : (if 2400 < σC 15 7 + 240 then 2400 else σC 15 7 + 240) ≤ σC 15 7 + z
              · rw [wr_eq (x := σC 15 7 + z) (by omega) (by omega), if_pos c4]
              · have c5 : ¬ (240 ≤ z ∨ 2400 ≤ σC 15 7 + z) := by
                  split at c4 <;> omega
                rw [wr_eq (x := σC 15 7 + z) (by omega) (by omega), if_neg c4]
                simp (disch := omega) only [wr_eq, if_pos, if_true]
            · unfold bdX12_when_24
              rw [dr, q1']
              by_cases c4 : 240 ≤ z
              · simp (disch := omega) only [wr_eq, if_pos, if_true]
              · by_cases c5 : a ≤ ρ 59 10
                · simp (disch := omega) only [wr_eq, if_pos, if_neg, if_true, if_false, Option.bind_some]
                · simp (disch := omega) only [wr_eq, if_pos, if_neg, if_true, if_false, Option.bind_some]
          · have c4 : ¬ (if 2400 < σC 15 7 + 240 then 2400 else σC 15 7 + 240) ≤ σC 15 7 + z := by
              split <;> omega
            obtain ⟨ρ', π', k1, k2, k3, k4, k5⟩ := h_hour (b := 48) (by decide) hS (by omega)
            have k1' := e_pass1 (by omega) k1
            refine Or.inr ⟨(σC 15 7 + z + 1, ρ'), ((z : Int) + 1, π'), m - 1, ?_, ?_, by omega, ⟨z + 1, by simp; omega, by simp, by omega, by omega, by dsimp only; omega⟩, k3, H_F_trans hF k4⟩
            · unfold bdX11_when_55
              rw [em, wr_eq (x := σC 15 7 + z) (by omega) (by omega), if_neg c4]
              simp (disch := omega) only [wr_eq, if_neg, if_false, k1', Option.bind_some]
            · unfold bdX12_when_24
              rw [dr, q1', k2]
              simp (disch := omega) only [wr_eq, if_neg, if_false, Option.bind_some]) pm_fuel 240 (σC 15 7, σ) (0, τ)
        ⟨⟨0, by simp, rfl, by omega, rfl, by dsimp only; omega⟩, d3, H_F_refl⟩ (pm_fl (by decide))
      obtain ⟨y1, ρ⟩ := y
      obtain ⟨y1', π⟩ := y'
      obtain ⟨hS, hF, hy⟩ := hQ
      dsimp only at hS hF hy
      obtain ⟨π3, d6, d7⟩ := d5 ρ π hF
      rw [e1, e2, Option.bind_some, Option.bind_some]
      unfold jnX11_when_88 jnX12_when_63
      dsimp only
      rw [e_dried hS.1.2.2.2.1, Option.bind_some, d6, Option.bind_some, Option.bind_some]
      refine pp_2 (fun _ => pp_ret rfl d7) (fun _ => pp_ret ?_ d7)
      rw [hy]
      exact hS.1.1.1
    · rw [if_neg c2, if_neg c2, if_neg (by decide)]
      exact pp_ref h (by decide)
  · rw [if_neg c1, if_neg c1, if_neg (by decide)]
    exact pp_ref h (by decide)
