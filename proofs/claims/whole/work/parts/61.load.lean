theorem e_emp {b : Nat} {σC σM : pm_M} {n : Nat} (hB : T_bea b σC σM) (hn : n < 4) : fX0_isEmpty b (n : Int) σC = some (if σC (b + 3) n = 0 then 1 else 0) := by
  obtain ⟨⟨g1, g2, g3⟩, -⟩ := hB n hn
  unfold fX0_isEmpty
  simp (disch := omega) only [wr_eq, pm_gt, Int.toNat_natCast]
  split <;> rfl
theorem e_ripe2 {b : Nat} {σC σM : pm_M} {n : Nat} (hR : R_rag σC σM) (hN : T_num b σC σM) (hH : T_hea b σC σM) (h0 : (n : Int) < σC (b + 28) 5) : (fX1_isRipe b n (σC b 7) σC = some 1 ∧ fX12_isRipe n σM = some 1 ∧ 0 < σC (b + 30) n) ∨ (fX1_isRipe b n (σC b 7) σC = some 0 ∧ fX12_isRipe n σM = some 0) := by
  have h3 := hH.2.2.1
  obtain ⟨r1, r2⟩ := e_ripe (a := (n : Int)) (wr_eq (by omega) (by omega)) hR hN hH ⟨by omega, h0⟩
  rw [Int.toNat_natCast] at r1 r2
  by_cases c : 0 < σC (b + 30) n ∧ σC 11 (σC (b + 29) n).toNat ≤ (σC b 7 - σC (b + 31) n) / 24
  · rw [if_pos c] at r1 r2
    exact Or.inl ⟨r1, r2, c.1⟩
  · rw [if_neg c] at r1 r2
    exact Or.inr ⟨r1, r2⟩
set_option maxHeartbeats 4000000 in
theorem s_load : sp_load pm_R := by
  intro x1 x2 x3 σC σM h
  show pp_ pm_R _ _
  have w1 := wr_to x1
  have w2 := wr_to x2
  have w3 := wr_to x3
  generalize x1.toInt = a at w1 ⊢
  generalize x2.toInt = r at w2 ⊢
  generalize x3.toInt = p at w3 ⊢
  obtain ⟨hrf, hrg, hmo, hor, hol, hwe, ⟨t1, t2, t3, t4, t5, t6⟩, hmr, htr⟩ := id h
  obtain ⟨h1, h2, h3, h4⟩ := id hrg
  obtain ⟨k1, k2, k3, k4, k5, k6⟩ := id t6
  simp only [Nat.reduceAdd] at k1 k2 k3 k4 k5 k6
  have e : wr (σC 43 5) = σC 43 5 := wr_eq (by omega) (by omega)
  unfold fX11_load fX12_load
  rw [← k1, e_num w1 (wr_eq (by decide) (by decide)), e_in w1 (wr_eq (by decide) (by decide)), e_num w2 e, e_in w2 e]
  refine pp_b (fun c1 => ?_) (fun _ => pp_ref h (by decide))
  refine pp_b (fun c2 => ?_) (fun _ => pp_ref h (by decide))
  obtain ⟨i, rfl⟩ := Int.eq_ofNat_of_zero_le c1.1
  obtain ⟨n, rfl⟩ := Int.eq_ofNat_of_zero_le c2.1
  have g := t2 i (by omega)
  have q := k6 n (by omega)
  simp only [Nat.reduceAdd] at g
  obtain ⟨⟨g1, g1a, g1b⟩, ⟨g2, g2a, g2b⟩, ⟨g3, g3a, g3b, g3c⟩, g4⟩ := g
  obtain ⟨⟨q1, q1a, q1b⟩, ⟨q2, q2a, q2b⟩, ⟨q3, q3a, q3b⟩, q4, q5⟩ := q
  obtain ⟨b1, b1a, b1b⟩ := h3 (σC 44 n).toNat (by omega)
  have i0 : Int.toNat (80 + 4 * (i : Int)) = 80 + 4 * i := by omega
  have i1 : Int.toNat (80 + 4 * (i : Int) + 1) = 81 + 4 * i := by omega
  have i2 : Int.toNat (80 + 4 * (i : Int) + 2) = 82 + 4 * i := by omega
  have z0 : (0 : Int) + (n : Int) = n := by omega
  have em : wr (pm_min 100 (σC 45 n)) = (if σC 45 n < 100 then σC 45 n else 100) := by
    unfold pm_min
    simp (disch := omega) only [wr_eq]
  rw [e_emp t2 (by omega)]
  simp only [Nat.reduceAdd, z0]
  have rp := e_ripe2 (n := n) hrg t1 t6 c2.2
  by_cases c3 : σC 18 i = 0
  · rcases rp with ⟨r1, r2, r3⟩ | ⟨r1, r2⟩
    · simp only [Nat.reduceAdd] at r3
      rw [r1, r2]
      by_cases c5 : 1 ≤ p
      · by_cases c6 : p ≤ 100 ∧ p ≤ σC 45 n
        · unfold fX0_take
          have c8 : p ≤ (if σC 45 n < 100 then σC 45 n else 100) := by split <;> omega
          simp (disch := omega) only [wr_eq, pm_gt, Option.bind_some, if_pos, if_neg, pu_ne, pu_eq, Int.toNat_natCast, Nat.reduceAdd, i0, i1, i2, ← g1, ← q1, ← q2, ← b1, e_wrong w3 wr_1, em, if_pos c8]
          refine pp_ret rfl ?_
          refine ⟨hrf, hrg, hmo, hor, hol, hwe, ⟨?_, ?_, t3, ?_, ?_, ?_⟩, hmr, htr⟩
          · exact T_num_cg t1 rfl (fun _ _ => rfl) (by simp (disch := omega) only [pu_ne]) (fun j _ _ => by simp (disch := omega) only [pu_ne])
          · intro v hv
            simp only [Nat.reduceAdd]
            by_cases ev : v = i
            · subst ev
              simp (disch := omega) only [pu_ne, pu_eq]
              exact ⟨⟨trivial, by omega, by omega⟩, ⟨trivial, by omega, by omega⟩, ⟨trivial, by omega, by omega, by omega⟩, g4⟩
            · simp (disch := omega) only [pu_ne]
              exact t2 v hv
          · exact T_pos_cg t4 rfl rfl rfl (fun k _ _ => by simp (disch := omega) only [pu_o]) rfl (by simp (disch := omega) only [pu_ne]) (fun j _ _ => by simp (disch := omega) only [pu_ne])
          · exact T_vat_cg t5 rfl (fun k _ _ => by simp (disch := omega) only [pu_o]) rfl rfl (by simp (disch := omega) only [pu_ne]) (fun j _ _ => by simp (disch := omega) only [pu_ne])
          · unfold T_hea
            simp (disch := omega) only [pu_ne, Nat.reduceAdd]
            refine ⟨k1, k2, k3, k4, fun j hj hj2 => ?_, fun j hj => ?_⟩
            · have := k5 j hj hj2
              simp (disch := omega) only [pu_ne]
              exact this
            · by_cases ej : j = n
              · subst ej
                simp (disch := omega) only [pu_ne, pu_eq]
                exact ⟨⟨q1, q1a, q1b⟩, ⟨trivial, by omega, by omega⟩, ⟨q3, q3a, q3b⟩, q4, fun _ => q5 r3⟩
              · simp (disch := omega) only [pu_ne]
                exact k6 j hj
        · have c8 : ¬ p ≤ (if σC 45 n < 100 then σC 45 n else 100) := by split <;> omega
          by_cases c9 : 100 < p
          · simp (disch := omega) only [wr_eq, pm_gt, Option.bind_some, if_pos, if_neg, Int.toNat_natCast, i0, ← g1, ← q2, e_wrong w3 wr_1, em, if_neg c8]
            exact pp_ref h (by decide)
          · simp (disch := omega) only [wr_eq, pm_gt, Option.bind_some, if_pos, if_neg, Int.toNat_natCast, i0, ← g1, ← q2, e_wrong w3 wr_1, em, if_neg c8]
            exact pp_ref h (by decide)
      · simp (disch := omega) only [wr_eq, pm_gt, Option.bind_some, if_pos, if_neg, Int.toNat_natCast, i0, ← g1, ← q2, e_wrong w3 wr_1]
        exact pp_ref h (by decide)
    · rw [r1, r2]
      simp (disch := omega) only [wr_eq, pm_gt, Option.bind_some, if_pos, if_neg, i0, ← g1]
      exact pp_ref (x := -3) h (by decide)
  · simp (disch := omega) only [wr_eq, pm_gt, Option.bind_some, if_pos, if_neg, i0, ← g1]
    exact pp_ref (x := -3) h (by decide)
