/-! ===== sizing ===== -/
set_option maxHeartbeats 4000000 in
theorem sz_one {σC σM : pm_M} (h : pm_R σC σM) {n : Nat} (hn : (n : Int) < σC 26 10) (hg : σC 36 n = -9) (hh : 0 < σC 0 9) : ∃ g σC' σM', fX11_sizePost n σC = some (g, σC') ∧ fX12_sizes n σM = some (g, σM') ∧ pm_R σC' σM' ∧ σC' 26 = σC 26 ∧ σC' 0 9 = σC 0 9 - 1 := by
  obtain ⟨hrf, hrg, ⟨m1, m2, m3, m4, m5, m6⟩, hor, hol, hwe, ⟨t1, t2, t3, t4, t5, t6⟩, hmr, htr⟩ := id h
  obtain ⟨u1, u2, u3, u4, u5⟩ := id t3
  obtain ⟨p1, p2, p3, p4, p5, p6, p7, p8, p9, p10, p11⟩ := id t4
  simp only [Nat.reduceAdd] at u1 u2 u3 u4 p1 p2 p3 p4 p5 p6 p7 p8
  have P := p9 n (by show (n : Int) < σC 26 8; omega)
  simp only [Nat.reduceAdd] at P
  obtain ⟨⟨a1, a2, a3⟩, ⟨b1, b2, b3⟩, ⟨d1, d2, d3⟩, ⟨f1, f2⟩, e1, e2, ⟨g1, g2⟩, s1⟩ := P
  rw [if_pos (by omega)] at f2
  obtain ⟨v1, v2, v3⟩ := u4 (σC 30 n).toNat (by omega)
  have n3 : σC 15 7 ≤ 2400 := t1.2.2.1
  have e9 : Int.tdiv (σC 33 n - σC 32 n) 24 = (σC 33 n - σC 32 n) / 24 := Int.tdiv_eq_ediv_of_nonneg (by omega)
  have hG : ∃ G, pm_max 0 (58 - (σC 33 n - σC 32 n) / 24) = G ∧ 0 ≤ G ∧ G ≤ 58 := by
    unfold pm_max
    simp (disch := omega) only [wr_eq]
    split
    · exact ⟨_, rfl, by omega, by omega⟩
    · exact ⟨_, rfl, by omega, by omega⟩
  obtain ⟨G, eG, G1, G2⟩ := hG
  have f3 : 9 * σC 31 n + σC 23 (σC 30 n).toNat = σC 31 n * 9 + σC 23 (σC 30 n).toNat := by omega
  have ms := m2 (σC 31 n * 9 + σC 23 (σC 30 n).toNat).toNat (by omega)
  have i0 : Int.toNat (111 + 8 * (n : Int) + 0) = 111 + 8 * n := by omega
  have i1 : Int.toNat (111 + 8 * (n : Int) + 1) = 112 + 8 * n := by omega
  have i2 : Int.toNat (111 + 8 * (n : Int) + 2) = 113 + 8 * n := by omega
  have i3 : Int.toNat (111 + 8 * (n : Int) + 3) = 114 + 8 * n := by omega
  have i4 : Int.toNat (111 + 8 * (n : Int) + 4) = 115 + 8 * n := by omega
  have i7 : Int.toNat (111 + 8 * (n : Int) + 7) = 118 + 8 * n := by omega
  have E1 : fX11_sizePost n σC = some (G, pm_up (pm_up (pm_up σC 0 9 (σC 0 9 - 1)) 36 n G) 92 (σC 31 n * 9 + σC 23 (σC 30 n).toNat).toNat (σC 92 (σC 31 n * 9 + σC 23 (σC 30 n).toNat).toNat + G)) := by
    unfold fX11_sizePost fX6_finish fX11_shelfOf
    simp (disch := omega) only [wr_eq, pm_gt, Option.bind_some, pu_ne, pu_eq, Int.toNat_natCast, Nat.reduceAdd, e9, eG]
  have E2 : fX12_sizes n σM = some (G, pm_up (pm_up (pm_up (pm_up σM 0 19 (σC 0 9 - 1)) 25 (111 + 8 * n) 3) 25 (118 + 8 * n) G) 8 (σC 31 n * 9 + σC 23 (σC 30 n).toNat).toNat (σC 92 (σC 31 n * 9 + σC 23 (σC 30 n).toNat).toNat + G)) := by
    unfold fX12_sizes fX12_post fX12_put
    simp (disch := omega) only [wr_eq, pm_gt, Option.bind_some, pu_ne, pu_eq, Int.toNat_natCast, i0, i1, i2, i3, i4, i7, ← a1, ← b1, ← d1, ← f1, ← v1, f3, ← ms, ← m3, e9, eG]
  refine ⟨G, _, _, E1, E2, ?_, rfl, rfl⟩
  generalize (σC 31 n * 9 + σC 23 (σC 30 n).toNat).toNat = s at ms ⊢
  refine ⟨hrf, hrg, ⟨m1, ?_, rfl, ?_, ?_, m6⟩, hor, hol, hwe, ⟨?_, ?_, t3, ?_, ?_, ?_⟩, hmr, htr⟩
  · intro i hi
    by_cases ei : i = s
    · subst ei
      simp (disch := omega) only [pu_eq]
    · simp (disch := omega) only [pu_ne]
      exact m2 i hi
  · show 0 ≤ σC 0 9 - 1
    omega
  · show σC 0 9 - 1 ≤ 1000
    omega
  · exact T_num_cg t1 rfl (fun _ _ => rfl) (by simp (disch := omega) only [pu_ne]) (fun j _ _ => by simp (disch := omega) only [pu_ne])
  · exact T_bea_cg t2 (fun k _ _ => by simp (disch := omega) only [pu_o]) (fun j _ _ => by simp (disch := omega) only [pu_ne])
  · refine ⟨?_, p2, p3, p4, p5, p6, p7, p8, fun i hi => ?_, p10, p11⟩
    · simp (disch := omega) only [pu_ne, Nat.reduceAdd]
      exact p1
    · have hi' : (i : Int) < σC 26 8 := hi
      have P := p9 i hi'
      by_cases ei : i = n
      · subst ei
        simp (disch := omega) only [pu_ne, pu_eq, Nat.reduceAdd] at P ⊢
        obtain ⟨y1, y2, y3, y4, y5, y6, y7, y8⟩ := P
        refine ⟨y1, y2, y3, y4, y5, y6, ⟨trivial, Or.inr ⟨G1, G2, hn⟩⟩, ?_⟩
        rw [if_pos (by omega)]
      · simp (disch := omega) only [pu_ne, Nat.reduceAdd] at P ⊢
        exact P
  · exact T_vat_cg t5 rfl (fun k _ _ => by simp (disch := omega) only [pu_o]) rfl rfl (by simp (disch := omega) only [pu_ne]) (fun j _ _ => by simp (disch := omega) only [pu_ne])
  · exact T_hea_cg t6 rfl (fun k _ _ => by simp (disch := omega) only [pu_o]) rfl rfl rfl (by simp (disch := omega) only [pu_ne]) (fun j _ => by simp (disch := omega) only [pu_ne])
/-- a post's state, on both sides -/
theorem e_st2 {b : Nat} {σC σM : pm_M} (hP : T_pos b σC σM) {n : Nat} (hn : (n : Int) < σC (b + 11) 8) : ∃ s : Int, fX6_stateOf b n σC = some s ∧ fX12_post n 0 σM = some s ∧ s = (if σC (b + 21) n ≠ -9 then 3 else if (n : Int) < σC (b + 11) 10 then 2 else if (n : Int) < σC (b + 11) 9 then 1 else 0) := by
  obtain ⟨p1, p2, p3, p4, p5, p6, p7, p8, p9, p10, p11⟩ := id hP
  obtain ⟨-, -, -, -, -, -, ⟨g1, g2⟩, s1⟩ := p9 n hn
  have i0 : Int.toNat (111 + 8 * (n : Int) + 0) = 111 + 8 * n := by omega
  refine ⟨_, ?_, ?_, rfl⟩
  · unfold fX6_stateOf
    simp (disch := omega) only [wr_eq, pm_gt, Int.toNat_natCast]
    by_cases c1 : σC (b + 21) n = -9
    · rw [if_pos c1, if_neg (show ¬ σC (b + 21) n ≠ -9 from fun q => q c1)]
      by_cases c2 : σC (b + 11) 10 ≤ n
      · by_cases c3 : σC (b + 11) 9 ≤ n
        · simp (disch := omega) only [if_pos, if_neg, if_true, if_false]
        · simp (disch := omega) only [if_pos, if_neg, if_true, if_false]
      · simp (disch := omega) only [if_pos, if_neg, if_true, if_false]
    · rw [if_neg c1, if_pos c1]
  · unfold fX12_post
    simp (disch := omega) only [wr_eq, pm_gt, i0]
    rw [s1]
set_option maxHeartbeats 4000000 in
theorem s_size : sp_size pm_R := by
  intro x1 σC σM h
  show pp_ pm_R _ _
  have w1 := wr_to x1
  generalize x1.toInt = a at w1 ⊢
  obtain ⟨hrf, hrg, ⟨m1, m2, m3, m4, m5, m6⟩, hor, hol, hwe, ⟨t1, t2, t3, t4, t5, t6⟩, hmr, htr⟩ := id h
  obtain ⟨p1, p2, p3, p4, p5, p6, p7, p8, p9, p10, p11⟩ := id t4
  simp only [Nat.reduceAdd] at p1 p2 p3 p4 p5 p6 p7 p8
  have e : wr (σC 26 8) = σC 26 8 := wr_eq (by omega) (by omega)
  unfold fX11_size fX12_size
  rw [show σM 25 (Int.toNat 752) = σC 26 8 from p1.symm, e_num w1 e, e_in w1 e, ← m3]
  refine pp_b (fun c1 => ?_) (fun _ => pp_ref h (by decide))
  obtain ⟨n, rfl⟩ := Int.eq_ofNat_of_zero_le c1.1
  obtain ⟨s, s1, s2, s3⟩ := e_st2 t4 (n := n) c1.2
  simp only [Nat.reduceAdd] at s3
  rw [s1, s2, Option.bind_some, Option.bind_some]
  have hs : 0 ≤ s ∧ s ≤ 3 := by
    rw [s3]
    split
    · decide
    · split
      · decide
      · split <;> decide
  rw [wr_eq (x := s) (by omega) (by omega), wr_eq (x := σC 0 9) (by omega) (by omega)]
  refine pp_2 (fun c2 => ?_) (fun _ => pp_ref h (by decide))
  refine pp_2 (fun _ => pp_ref h (by decide)) (fun c3 => ?_)
  have c4 : σC 36 n = -9 ∧ (n : Int) < σC 26 10 := by
    rw [c2] at s3
    by_cases q1 : σC 36 n = -9
    · rw [if_neg (fun q => q q1)] at s3
      by_cases q2 : (n : Int) < σC 26 10
      · exact ⟨q1, q2⟩
      · rw [if_neg q2] at s3
        split at s3 <;> omega
    · rw [if_pos q1] at s3
      omega
  obtain ⟨g, σC', σM', E1, E2, hR, -⟩ := sz_one h c4.2 c4.1 (by omega)
  rw [E1, E2, Option.bind_some, Option.bind_some]
  exact pp_ret rfl hR
