set_option maxHeartbeats 4000000 in
theorem s_heap : sp_heap pm_R := by
  intro x1 x2 σC σM h
  show pp_ pm_R _ _
  have w1 := wr_to x1
  have w2 := wr_to x2
  generalize x1.toInt = a at w1 ⊢
  generalize x2.toInt = r at w2 ⊢
  obtain ⟨hrf, ⟨h1, h2, h3, h4⟩, hmo, hor, hol, hwe, ⟨t1, t2, t3, t4, t5, ⟨k1, k2, k3, k4, k5, k6⟩⟩, hmr, htr⟩ := id h
  have n1 : σC 15 7 = σM 25 (Int.toNat 751) := t1.1
  have n2 : 0 ≤ σC 15 7 := t1.2.1
  simp only [Nat.reduceAdd] at k1 k2 k3 k4 k5 k6
  unfold fX11_heap fX12_heap fX1_lay jnX12_heap_48 jnX12_heap_54
  have e : wr (σC 43 5) = σC 43 5 := wr_eq (by omega) (by omega)
  simp (decide := true) only [pm_up_c, if_true, if_false, Nat.reduceAdd, ← k1, e, w1, w2, e_num w1 (wr_eq (x := 9) (by decide) (by decide)), e_kind w1, wr_0]
  refine pp_b (fun c1 => ?_) (fun _ => ?_)
  · obtain ⟨g1, g2, g3⟩ := h4 a.toNat (by omega)
    rw [← g1, wr_eq (x := σC 14 a.toNat) (by omega) (by omega)]
    refine pp_2 (fun c2 => ?_) (fun _ => pp_ref h (by decide))
    refine pp_2 (fun _ => pp_ref h (by decide)) (fun c3 => ?_)
    refine pp_2g c1 ?_
    refine pp_2 (fun _ => pp_ref h (by decide)) (fun c4 => ?_)
    refine pp_2 (fun _ => pp_ref h (by decide)) (fun c5 => ?_)
    have e0 : (0 : Int) + σC 43 5 = σC 43 5 := by omega
    simp (disch := omega) only [pm_gt, Option.bind_some, e0, e]
    refine pp_ret rfl ?_
    have d1 : (σC 43 5).toNat < 40 := by omega
    refine ⟨hrf, ⟨h1, h2, h3, ?_⟩, hmo, hor, hol, hwe, ⟨?_, ?_, t3, ?_, ?_, ?_⟩, hmr, htr⟩
    · simp (decide := true) only [pm_up_c, if_true, if_false]
      exact r_eq_up h4 (by omega) (by omega)
    · exact T_num_cg t1 rfl (fun _ _ => rfl) (by simp (disch := omega) only [pu_ne]) (fun j _ _ => by simp (disch := omega) only [pu_ne])
    · exact T_bea_cg t2 (fun k _ _ => by simp (disch := omega) only [pu_o]) (fun j _ _ => by simp (disch := omega) only [pu_ne])
    · exact T_pos_cg t4 rfl rfl rfl (fun k _ _ => by simp (disch := omega) only [pu_o]) rfl (by simp (disch := omega) only [pu_ne]) (fun j _ _ => by simp (disch := omega) only [pu_ne])
    · exact T_vat_cg t5 rfl (fun k _ _ => by simp (disch := omega) only [pu_o]) rfl rfl (by simp (disch := omega) only [pu_ne]) (fun j _ _ => by simp (disch := omega) only [pu_ne])
    · unfold T_hea
      simp (disch := omega) only [pu_ne, pu_eq, Nat.reduceAdd]
      refine ⟨trivial, by omega, by omega, k4, fun i hi hj => ?_, fun i hi => ?_⟩
      · have := k5 i hi (by omega)
        exact this
      · by_cases ei : i = (σC 43 5).toNat
        · subst ei
          simp (disch := omega) only [pu_ne, pu_eq]
          have := k5 (σC 43 5).toNat (by omega) (by omega)
          refine ⟨⟨trivial, by omega, by omega⟩, ⟨trivial, by omega, by omega⟩, ⟨n1, by omega, by omega⟩, by omega, fun _ => this.1⟩
        · simp (disch := omega) only [pu_ne]
          exact k6 i (by omega)
  · exact pp_ref h (by decide)
