theorem pp_refF {σC σM : pm_M} (h : pm_R σC σM) {x : Int} (hx : -6 ≤ x ∧ x ≤ -1) : pp_ pm_R ((fX11_refuse x σC).bind fun q => some (1000000000 - q.1, q.2)) ((fX12_refuse x σM).bind fun q => some (1000000000 - q.1, q.2)) := by
  have e1 : wr (-x) = -x := wr_eq (by omega) (by omega)
  unfold fX11_refuse fX12_refuse
  rw [e1]
  unfold pm_g
  have hc : 0 ≤ -x ∧ -x < 7 := by omega
  simp only [if_pos hc, Option.bind_some]
  refine pp_ret rfl ?_
  rcases pm_R_rf h (n := Int.toNat (-x)) with h | h
  · exact h
  · omega
theorem R_fill {σC σM : pm_M} (h : pm_R σC σM) {n s : Nat} (x came : Int) (hs : σC 92 s = σM 8 s) : pm_R (pm_up (pm_up (pm_up σC 92 s (σC 92 s - x)) 87 n (σC 15 7)) 0 10 (σC 0 10 + came)) (pm_up (pm_up (pm_up σM 8 s (σC 92 s - x)) 21 n (σC 15 7)) 0 18 (σC 0 10 + came)) := by
  obtain ⟨hrf, hrg, ⟨m1, m2, m3, m4, m5, m6⟩, ⟨o1, o2, o3, o4⟩, hol, hwe, ht, hmr, htr⟩ := id h
  have t1 := ht.1
  refine ⟨hrf, hrg, ⟨m1, ?_, m3, m4, m5, rfl⟩, ⟨o1, o2, o3, ?_⟩, hol, hwe, ht, hmr, htr⟩
  · intro i hi
    by_cases e : i = s
    · subst e
      simp (disch := omega) only [pu_ne, pu_eq]
    · simp (disch := omega) only [pu_ne]
      exact m2 i hi
  · intro i hi
    have q := o4 i hi
    by_cases e : i = n
    · subst e
      simp (disch := omega) only [pu_ne, pu_eq]
      obtain ⟨q1, q2, q3, q4, q5, q6⟩ := q
      exact ⟨q1, q2, q3, q4, q5, trivial, Or.inr ⟨t1.2.1, t1.2.2.1⟩⟩
    · simp (disch := omega) only [pu_ne]
      exact q
set_option maxHeartbeats 4000000 in
theorem s_fill : sp_fill pm_R := by
  intro x1 σC σM h
  show pp_ pm_R _ _
  have w1 := wr_to x1
  generalize x1.toInt = a at w1 ⊢
  obtain ⟨hrf, hrg, ⟨m1, m2, m3, m4, m5, m6⟩, ⟨o1, o2, o3, o4⟩, hol, hwe, ⟨t1, t2, t3, t4, t5, t6⟩, hmr, htr⟩ := id h
  obtain ⟨n1, n2, n3, n4⟩ := id t1
  have e : wr (σC 81 6) = σC 81 6 := wr_eq (by omega) (by omega)
  unfold fX11_fill fX12_fill
  rw [← o1, e_num w1 e, e_in w1 e]
  refine pp_b (fun c1 => ?_) (fun _ => pp_refF h (by decide))
  obtain ⟨n, rfl⟩ := Int.eq_ofNat_of_zero_le c1.1
  obtain ⟨⟨q1, q1a, q1b⟩, ⟨q2, q2a, q2b⟩, ⟨q3, q3a, q3b⟩, ⟨q4, q4a, q4b⟩, ⟨q5, q5a, q5b⟩, q6, q6a⟩ := o4 n (by omega)
  obtain ⟨d1, d1a, d1b⟩ := m1 (σC 83 n).toNat (by omega)
  have f1 : 9 * σC 82 n + σC 83 n = σC 82 n * 9 + σC 83 n := by omega
  have f2 : 480 * σC 84 n = σC 84 n * 480 := by omega
  have f3 : wr (σC 82 n * 9 + σC 83 n) = σC 82 n * 9 + σC 83 n := wr_eq (by omega) (by omega)
  have s1 := m2 (σC 82 n * 9 + σC 83 n).toNat (by omega)
  have n1' : σM 25 751 = σC 15 7 := n1.symm
  unfold fX11_shelfOf fX5_isOpen
  by_cases c2 : σC 87 n = -9
  · by_cases c3 : σC 84 n * 480 ≤ wr (σC 92 (σC 82 n * 9 + σC 83 n).toNat)
    · unfold fX10_today fX12_today fX5_coinsFor jnX12_fill_144
      have e9 : Int.tdiv (σC 15 7) 24 = σC 15 7 / 24 := Int.tdiv_eq_ediv_of_nonneg n2
      by_cases c4 : σC 15 7 / 24 ≤ σC 85 n
      · simp (disch := omega) only [wr_eq, pm_gt, Option.bind_some, if_pos, if_neg, pu_ne, pu_eq, Int.toNat_natCast, Int.reduceToNat, ← q1, ← q2, ← q3, ← q4, ← q5, ← q6, f1, f2, f3, ← s1, n1', ← d1, e9, ← m6, if_pos c3]
        exact pp_ret rfl (R_fill h _ _ s1)
      · simp (disch := omega) only [wr_eq, pm_gt, Option.bind_some, if_pos, if_neg, pu_ne, pu_eq, Int.toNat_natCast, Int.reduceToNat, ← q1, ← q2, ← q3, ← q4, ← q5, ← q6, f1, f2, f3, ← s1, n1', ← d1, e9, ← m6, if_pos c3]
        exact pp_ret rfl (R_fill h _ _ s1)
    · simp (disch := omega) only [wr_eq, pm_gt, Option.bind_some, if_pos, if_neg, Int.toNat_natCast, ← q1, ← q2, ← q3, ← q6, f1, f2, f3, ← s1, if_neg c3]
      exact pp_refF h (by decide)
  · simp (disch := omega) only [wr_eq, pm_gt, Option.bind_some, if_pos, if_neg, Int.toNat_natCast, ← q6, f3]
    exact pp_refF (x := -3) h (by decide)
