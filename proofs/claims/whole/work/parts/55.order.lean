theorem s_order : sp_order pm_R := by
  intro x1 x2 x3 x4 x5 σC σM h
  show pp_ pm_R _ _
  have w1 := wr_to x1
  have w2 := wr_to x2
  have w3 := wr_to x3
  have w4 := wr_to x4
  have w5 := wr_to x5
  generalize x1.toInt = a at w1 ⊢
  generalize x2.toInt = b at w2 ⊢
  generalize x3.toInt = c at w3 ⊢
  generalize x4.toInt = d at w4 ⊢
  generalize x5.toInt = f at w5 ⊢
  obtain ⟨hrf, hrg, hmo, ⟨o1, o2, o3, o4⟩, hrest⟩ := id h
  unfold fX11_order fX12_order fX5_take
  simp (decide := true) only [pm_up_c, if_true, if_false]
  have e : wr (σC 81 6) = σC 81 6 := wr_eq (by omega) (by omega)
  simp only [← o1, e, w1, w2, w3, w4, w5, e_num w1 (wr_eq (x := 9) (by decide) (by decide)), e_kind w1, e_wt w2, e_wtM w2]
  refine pp_b (fun c1 => ?_) (fun _ => pp_ref h (by decide))
  refine pp_b (fun c2 => ?_) (fun _ => pp_ref h (by decide))
  refine pp_2 (fun _ => pp_ref h (by decide)) (fun c3 => ?_)
  refine pp_2 (fun _ => pp_ref h (by decide)) (fun c4 => ?_)
  refine pp_2 (fun c5 => ?_) (fun _ => pp_ref h (by decide))
  refine pp_2 (fun _ => pp_ref h (by decide)) (fun c6 => ?_)
  by_cases c7 : 101 ≤ d
  · rw [if_pos c7, if_pos (show 100 < d by omega)]
    exact pp_ref h (by decide)
  rw [if_neg c7, if_neg (show ¬ 100 < d by omega)]
  by_cases c8 : f ≤ 999
  · rw [if_pos c8, if_neg (show ¬ 999 < f by omega)]
    refine pp_2 (fun _ => pp_ref h (by decide)) (fun c9 => ?_)
    have c0 : 0 ≤ σC 81 6 ∧ σC 81 6 < 12 := by omega
    simp only [pm_g, if_pos c0, Option.bind_some]
    refine pp_ret ?_ ?_
    · simp [o1]
    · refine ⟨hrf, hrg, hmo, ?_, hrest⟩
      unfold R_ord
      simp (decide := true) only [pm_up_c, if_true, if_false]
      refine ⟨by simp [o1], by omega, by omega, ?_⟩
      intro i hi
      by_cases ei : i = (σC 81 6).toNat
      · subst ei
        simp only [if_true]
        refine ⟨⟨trivial, by omega, by omega⟩, ⟨trivial, by omega, by omega⟩, ⟨trivial, by omega, by omega⟩, ⟨trivial, by omega, by omega⟩, ⟨trivial, by omega, by omega⟩, ⟨trivial, Or.inl trivial⟩⟩
      · simp only [if_neg ei]
        exact o4 i (by omega)
  · rw [if_neg c8, if_pos (show 999 < f by omega)]
    exact pp_ref h (by decide)
