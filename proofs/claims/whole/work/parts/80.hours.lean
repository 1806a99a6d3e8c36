/-! ===== hours ===== -/
theorem H_R {σC σM : pm_M} (h : pm_R σC σM) : H_S 15 σC σM := ⟨h.2.2.2.2.2.2.1, Or.inl ⟨rfl, h.2.2.2.2.2.2.2.2.1, h.2.2.2.2.2.2.2.1, h.2.2.2.2.2.2.2.2.2⟩, h.2.2.2.2.2.1, h.2.1⟩
theorem R_H {σC σM σ τ : pm_M} (h : pm_R σC σM) (s : H_S 15 σ τ) (f : H_F 15 σC σM σ τ) : pm_R σ τ := by
  obtain ⟨hrf, hrg, hmo, hor, hol, hwe, ht, hmr, htr, hx⟩ := h
  obtain ⟨s1, s2, s3, s4⟩ := s
  obtain ⟨f1, f2, f3⟩ := f
  have m0 : τ 0 = σM 0 := f2 0 (by decide) (by decide) (by decide) (by decide) (by decide)
  refine ⟨?_, s4, ?_, ?_, ?_, s3, s1, ?_⟩
  · unfold R_rf at hrf ⊢
    rw [f1 93 (by decide), f2 1 (by decide) (by decide) (by decide) (by decide) (by decide)]
    exact hrf
  · unfold R_mon at hmo ⊢
    rw [f1 91 (by decide), f1 92 (by decide), f1 0 (by decide), m0, f2 7 (by decide) (by decide) (by decide) (by decide) (by decide), f2 8 (by decide) (by decide) (by decide) (by decide) (by decide)]
    exact hmo
  · unfold R_ord at hor ⊢
    rw [f1 81 (by decide), f1 82 (by decide), f1 83 (by decide), f1 84 (by decide), f1 85 (by decide), f1 86 (by decide), f1 87 (by decide), m0, f2 16 (by decide) (by decide) (by decide) (by decide) (by decide), f2 17 (by decide) (by decide) (by decide) (by decide) (by decide), f2 18 (by decide) (by decide) (by decide) (by decide) (by decide), f2 19 (by decide) (by decide) (by decide) (by decide) (by decide), f2 20 (by decide) (by decide) (by decide) (by decide) (by decide), f2 21 (by decide) (by decide) (by decide) (by decide) (by decide)]
    exact hor
  · unfold R_old at hol ⊢
    rw [f1 90 (by decide), f2 24 (by decide) (by decide) (by decide) (by decide) (by decide)]
    exact hol
  · rcases s2 with ⟨-, g1, g2, g3⟩ | g
    · exact ⟨g2, g1, g3⟩
    · rw [m0, htr] at g
      omega
set_option maxHeartbeats 8000000 in
theorem h_pass {b : Nat} {σC σM : pm_M} {y3 : Int} {n : Nat} (hb : 15 ≤ b) (h : H_S b σC σM) (hn : σC b 7 + n ≤ 2400) : ∃ (z : Int) (σ' τ' : pm_M), fX10_pass b n σC = some σ' ∧ pm_it (fun a : Int × pm_M => bdX12_hours_40 n y3 a.1 a.2) pm_fuel (0, σM) = some (z, τ') ∧ H_S b σ' τ' ∧ H_F b σC σM σ' τ' ∧ σ' b 7 = σC b 7 + n := by
  unfold fX10_pass
  have n2 := h.1.1.2.1
  obtain ⟨y, y', e1, e2, hQ⟩ := pm_it_2 (f := fun a : Int × pm_M => bdX10_pass_2 b n a.1 a.2) (g := fun a : Int × pm_M => bdX12_hours_40 n y3 a.1 a.2)
    (fun m a a' => (∃ z : Nat, a.1 = z ∧ a'.1 = z ∧ z ≤ n ∧ m = n - z ∧ a.2 b 7 = σC b 7 + z) ∧ H_S b a.2 a'.2 ∧ H_F b σC σM a.2 a'.2)
    (fun y y' => H_S b y.2 y'.2 ∧ H_F b σC σM y.2 y'.2 ∧ y.2 b 7 = σC b 7 + n) (by
      rintro m ⟨z0, σ⟩ ⟨z0', τ⟩ ⟨⟨z, hz, hz', hle, hm, h7⟩, hS, hF⟩
      dsimp only at hz hz' h7 hS hF ⊢
      subst hz hz'
      by_cases c : z = n
      · subst c
        refine Or.inl ⟨((z : Int), σ), ((z : Int), τ), ?_, ?_, hS, hF, h7⟩
        · unfold bdX10_pass_2
          simp (disch := omega) only [wr_eq, if_pos, if_true]
        · unfold bdX12_hours_40
          simp (disch := omega) only [wr_eq, if_pos, if_true]
      · obtain ⟨σ', τ', k1, k2, k3, k4, k5⟩ := h_hour hb hS (by omega)
        refine Or.inr ⟨((z : Int) + 1, σ'), ((z : Int) + 1, τ'), m - 1, ?_, ?_, by omega, ⟨z + 1, by simp, by simp, by omega, by omega, by dsimp only; omega⟩, k3, H_F_trans hF k4⟩
        · unfold bdX10_pass_2
          simp (disch := omega) only [wr_eq, if_neg, if_false, k1, Option.bind_some]
        · unfold bdX12_hours_40
          simp (disch := omega) only [wr_eq, if_neg, if_false, k2, Option.bind_some]) pm_fuel n (0, σC) (0, σM)
    ⟨⟨0, rfl, rfl, by omega, rfl, by simp⟩, h, H_F_refl⟩ (pm_fl (by omega))
  rw [e1, Option.bind_some]
  exact ⟨y'.1, y.2, y'.2, rfl, e2, hQ.1, hQ.2.1, hQ.2.2⟩
set_option maxHeartbeats 4000000 in
theorem s_hours : sp_hours pm_R := by
  intro x1 σC σM h
  show pp_ pm_R _ _
  have w1 := wr_to x1
  generalize x1.toInt = a at w1 ⊢
  obtain ⟨n1, n2, n3, n4⟩ := h.2.2.2.2.2.2.1.1
  have p1 : σC 26 8 = σM 25 752 := h.2.2.2.2.2.2.1.2.2.2.1.1
  have n1' : σM 25 (Int.toNat 751) = σC 15 7 := n1.symm
  have p1' : σM 25 (Int.toNat 752) = σC 26 8 := p1.symm
  unfold fX11_hours fX12_hours
  rw [n1', p1', e_wrong w1 wr_1, Option.bind_some, w1, wr_eq (x := 2400 - σC 15 7) (by omega) (by omega)]
  by_cases c1 : 1 ≤ a
  · rw [if_pos c1, if_pos c1]
    by_cases c2 : a ≤ 2400 - σC 15 7
    · rw [if_pos c2, if_pos c2, if_pos wr_0]
      obtain ⟨n, rfl⟩ := Int.eq_ofNat_of_zero_le (show 0 ≤ a by omega)
      obtain ⟨z, σ', τ', k1, k2, k3, k4, k5⟩ := h_pass (b := 15) (y3 := σC 26 8) (n := n) (by decide) (H_R h) (by omega)
      rw [k1, k2, Option.bind_some, Option.bind_some]
      refine pp_ret ?_ (R_H h k3 k4)
      have q : σ' 26 8 = τ' 25 752 := k3.1.2.2.2.1.1
      dsimp only
      rw [q]
      rfl
    · rw [if_neg c2, if_neg c2, if_neg (by decide)]
      exact pp_ref h (by decide)
  · rw [if_neg c1, if_neg c1, if_neg (by decide)]
    exact pp_ref h (by decide)
