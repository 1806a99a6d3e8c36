set_option maxHeartbeats 4000000 in
theorem s_sizeAll : sp_sizeAll pm_R := by
  intro σC σM h
  show pp_ pm_R _ _
  unfold fX11_sizeAll fX12_sizeAll
  have h8 : σC 26 8 ≤ 80 := h.2.2.2.2.2.2.1.2.2.2.1.2.2.2.2.1
  obtain ⟨y, y', e1, e2, hQ⟩ := pm_it_3 (f := fun a : Int × Int × pm_M => bdX11_sizeAll_4 a.1 a.2.1 a.2.2) (g := fun a : Int × Int × pm_M => bdX12_sizeAll_4 a.1 a.2.1 a.2.2)
    (fun m a a' => a.1 = a'.1 ∧ a.2.2 26 = σC 26 ∧ pm_R a.2.2 a'.2.2 ∧ ∃ z z' : Nat, a.2.1 = z ∧ a'.2.1 = z' ∧ z ≤ z' ∧ (z' : Int) ≤ 80 ∧ m = 80 - z' ∧ (z < z' → σC 26 10 ≤ z))
    (fun y y' => y.1 = y'.1 ∧ pm_R y.2.2 y'.2.2) (by
      rintro m ⟨k, z0, σ⟩ ⟨k', z0', τ⟩ ⟨hk, h26, hR, z, z', hz, hz', hle, hle2, hm, hgo⟩
      dsimp only at hk h26 hR hz hz' ⊢
      subst hk hz hz'
      obtain ⟨hrf, hrg, ⟨m1, m2, m3, m4, m5, m6⟩, hor, hol, hwe, ⟨t1, t2, t3, t4, t5, t6⟩, hmr, htr⟩ := id hR
      obtain ⟨p1, p2, p3, p4, p5, p6, p7, p8, p9, p10, p11⟩ := id t4
      simp only [Nat.reduceAdd] at p1 p2 p3 p4 p5 p6 p7 p8
      have q10 : σC 26 10 = σ 26 10 := by rw [h26]
      have p1' : τ 25 (Int.toNat 752) = σ 26 8 := p1.symm
      by_cases c1 : (z' : Int) < σ 26 8 ∧ 0 < σ 0 9
      · obtain ⟨s, s1, s2, s3⟩ := e_st2 t4 (n := z') c1.1
        simp only [Nat.reduceAdd] at s3
        by_cases c2 : (z : Int) < σ 26 10
        · have ez : z = z' := by
            rcases Nat.lt_or_ge z z' with q | q
            · have := hgo q; omega
            · omega
          subst ez
          by_cases c3 : σ 36 z = -9
          · rw [if_neg (fun q => q c3), if_pos c2] at s3
            subst s3
            obtain ⟨g, σ', τ', E1, E2, hR', k1, k2⟩ := sz_one hR c2 c3 c1.2
            refine Or.inr (Or.inl ⟨(k + 1, (z : Int) + 1, σ'), (k + 1, (z : Int) + 1, τ'), m - 1, ?_, ?_, by omega, rfl, by show σ' 26 = σC 26; rw [k1, h26], hR', z + 1, z + 1, by simp, by simp, by omega, by omega, by omega, fun q => by omega⟩)
            · unfold bdX11_sizeAll_4
              simp (disch := omega) only [wr_eq, if_neg, if_pos, if_true, if_false, s1, Option.bind_some, E1]
            · unfold bdX12_sizeAll_4
              simp (disch := omega) only [p1', ← m3, wr_eq, if_neg, if_pos, if_true, if_false, s2, Option.bind_some, E2]
          · rw [if_pos c3] at s3
            subst s3
            refine Or.inr (Or.inl ⟨(k, (z : Int) + 1, σ), (k, (z : Int) + 1, τ), m - 1, ?_, ?_, by omega, rfl, h26, hR, z + 1, z + 1, by simp, by simp, by omega, by omega, by omega, fun q => by omega⟩)
            · unfold bdX11_sizeAll_4
              simp (disch := omega) only [wr_eq, if_neg, if_pos, if_true, if_false, s1, Option.bind_some]
            · unfold bdX12_sizeAll_4
              simp (disch := omega) only [p1', ← m3, wr_eq, if_neg, if_pos, if_true, if_false, s2, Option.bind_some]
        · have hs : s ≠ 2 ∧ 0 ≤ s ∧ s ≤ 3 := by
            rw [s3]
            split
            · decide
            · rw [if_neg (by omega)]
              split <;> decide
          refine Or.inr (Or.inr (Or.inr ⟨(k, (z' : Int) + 1, τ), m - 1, ?_, by omega, rfl, h26, hR, z, z' + 1, rfl, by simp, by omega, by omega, by omega, fun q => by omega⟩))
          unfold bdX12_sizeAll_4
          simp (disch := omega) only [p1', ← m3, wr_eq, if_neg, if_pos, if_true, if_false, s2, Option.bind_some]
      · have c3 : σ 26 10 ≤ z ∨ σ 0 9 ≤ 0 := by
          by_cases q : z < z'
          · exact Or.inl (by have := hgo q; omega)
          · omega
        refine Or.inl ⟨(k, (z : Int), σ), (k, (z' : Int), τ), ?_, ?_, rfl, hR⟩
        · unfold bdX11_sizeAll_4
          by_cases q : σ 26 10 ≤ z
          · simp (disch := omega) only [wr_eq, if_pos, if_true]
          · simp (disch := omega) only [wr_eq, if_pos, if_neg, if_true, if_false]
        · unfold bdX12_sizeAll_4
          by_cases q : σ 26 8 ≤ z'
          · simp (disch := omega) only [p1', wr_eq, if_pos, if_true]
          · simp (disch := omega) only [p1', ← m3, wr_eq, if_pos, if_neg, if_true, if_false]) 80 pm_fuel pm_fuel (0, 0, σC) (0, 0, σM)
    ⟨rfl, rfl, h, 0, 0, rfl, rfl, by omega, by decide, rfl, fun q => by omega⟩ (pm_fl (by decide)) (pm_fl (by decide))
  rw [e1, e2, Option.bind_some, Option.bind_some]
  exact pp_ret hQ.1 hQ.2
