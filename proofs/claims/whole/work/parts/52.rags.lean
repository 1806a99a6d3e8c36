theorem pp_ref' {σC σM : pm_M} (h : pm_R σC σM) (n : Nat) (hn : 1 ≤ n ∧ n ≤ 6) : pp_ pm_R ((fX11_refuse (-(n : Int)) σC).bind fun q => some (q.1, q.2)) ((fX12_refuse (-(n : Int)) σM).bind fun q => some (q.1, q.2)) := pp_ref h (by omega)
theorem s_hides : sp_hides pm_R := by
  intro x1 σC σM h
  show pp_ pm_R _ _
  have w1 := wr_to x1
  generalize x1.toInt = a at w1 ⊢
  obtain ⟨hrf, hrg, ⟨hm1, hm2, hm3, hm4, hm5, hm6⟩, hrest⟩ := id h
  unfold fX11_hides fX12_hides
  rw [e_wrong w1 wr_1, Option.bind_some, w1, ← hm3]
  have e : wr (1000 - σC 0 9) = 1000 - σC 0 9 := wr_eq (by omega) (by omega)
  rw [e]
  by_cases c1 : 1 ≤ a
  · rw [if_pos c1, if_pos c1]
    by_cases c2 : a ≤ 1000 - σC 0 9
    · rw [if_pos c2, if_pos c2, if_pos wr_0]
      refine pp_ret ?_ ?_
      · rw [pm_up_c, pm_up_c]; simp
      · refine ⟨hrf, hrg, ⟨hm1, hm2, ?_, ?_, ?_, ?_⟩, ?_⟩
        all_goals sorry
    · rw [if_neg c2, if_neg c2, if_neg (by decide)]
      exact pp_ref h (by decide)
  · rw [if_neg c1, if_neg c1, if_neg (by decide)]
    exact pp_ref h (by decide)
