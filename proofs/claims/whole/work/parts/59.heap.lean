set_option maxHeartbeats 4000000 in
theorem s_heap : sp_heap pm_R := by
  intro x1 x2 σC σM h
  show pp_ pm_R _ _
  have w1 := wr_to x1
  have w2 := wr_to x2
  generalize x1.toInt = a at w1 ⊢
  generalize x2.toInt = r at w2 ⊢
  obtain ⟨hrf, ⟨h1, h2, h3, h4⟩, hmo, hor, hol, hwe, ⟨t1, t2, t3, t4, t5, ⟨k1, k2, k3, k4, k5, k6⟩⟩, hmr, htr⟩ := id h
  have n1 : σC 15 7 = σM 25 (Int.toNat 751) := t1.1
  have n2 : 0 ≤ σC 15 7 := t1.2.1
  simp only [Nat.reduceAdd] at k1 k2 k3 k4 k5 k6
  unfold fX11_heap fX12_heap fX1_lay jnX12_heap_48 jnX12_heap_54
  have e : wr (σC 43 5) = σC 43 5 := wr_eq (by omega) (by omega)
  simp (decide := true) only [pm_up_c, if_true, if_false, Nat.reduceAdd, ← k1, e, w1, w2, e_num w1 (wr_eq (x := 9) (by decide) (by decide)), e_kind w1, wr_0]
  refine pp_b (fun c1 => ?_) (fun _ => ?_)
  · obtain ⟨g1, g2, g3⟩ := h4 a.toNat (by omega)
    rw [← g1, wr_eq (x := σC 14 a.toNat) (by omega) (by omega)]
    refine pp_2 (fun c2 => ?_) (fun _ => pp_ref h (by decide))
    refine pp_2 (fun _ => pp_ref h (by decide)) (fun c3 => ?_)
    refine pp_2g c1 ?_
    refine pp_2 (fun _ => pp_ref h (by decide)) (fun c4 => ?_)
    refine pp_2 (fun _ => pp_ref h (by decide)) (fun c5 => ?_)
    sorry
  · exact pp_ref h (by decide)
