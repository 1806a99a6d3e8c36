theorem s_beaterOf : sp_beaterOf pm_R := by
  intro x1 x2 σC σM h
  show pp_ pm_R _ _
  have w1 := wr_to x1
  have w2 := wr_to x2
  generalize x1.toInt = a at w1 ⊢
  generalize x2.toInt = r at w2 ⊢
  obtain ⟨hrf, hrg, hmo, hor, hol, hwe, ⟨t1, t2, t3⟩, hmr, htr⟩ := id h
  unfold fX11_beaterOf fX12_beaterOf
  rw [e_num w1 (wr_eq (by decide) (by decide)), e_in w1 (wr_eq (by decide) (by decide)), e_in w2 (wr_eq (by decide) (by decide)), w1, w2]
  refine pp_b (fun c1 => ?_) (fun _ => pp_ref h (by decide))
  have g := t2 a.toNat (by omega)
  simp only [Nat.reduceAdd] at g
  obtain ⟨⟨g1, g1a, g1b⟩, ⟨g2, g2a, g2b⟩, ⟨g3, g3a, g3b, g3c⟩, g4⟩ := g
  have f0 : wr (80 + 4 * a) = 80 + 4 * a := wr_eq (by omega) (by omega)
  have f1 : wr (80 + 4 * a + 1) = 80 + 4 * a + 1 := wr_eq (by omega) (by omega)
  have i0 : Int.toNat (80 + 4 * a) = 80 + 4 * a.toNat := by omega
  have i1 : Int.toNat (80 + 4 * a + 1) = 81 + 4 * a.toNat := by omega
  by_cases c2 : 0 ≤ r ∧ r < 4
  · refine pp_br (fun _ => ?_) (fun q => absurd c2 q)
    have f2 : wr (80 + 4 * a + r) = 80 + 4 * a + r := wr_eq (by omega) (by omega)
    rw [f0, f1, f2, i0, i1, ← g1, ← g2, wr_eq (x := σC 18 a.toNat) (by omega) (by omega)]
    rcases (show r = 0 ∨ r = 1 ∨ r = 2 ∨ r = 3 by omega) with rfl | rfl | rfl | rfl
    · rw [if_pos rfl, if_neg (by decide), if_neg (by decide), show Int.toNat (80 + 4 * a + 0) = 80 + 4 * a.toNat by omega]
      exact pp_lg c1 (pp_rg (by omega) (pp_ret g1 h))
    · rw [if_neg (by decide), if_pos rfl, if_pos rfl]
      refine pp_rg (by omega) ?_
      have e : fX0_isEmpty 15 a σC = some (if σC 18 a.toNat = 0 then 1 else 0) := by
        unfold fX0_isEmpty pm_g
        rw [w1, if_pos c1]
        have e5 : wr (σC (15 + 3) a.toNat) = σC 18 a.toNat := wr_eq (by show _ ≤ σC 18 a.toNat; omega) (by show σC 18 a.toNat < _; omega)
        rw [e5]
        split <;> rfl
      rw [e]
      refine pp_bl (fun c3 => ?_) (fun c3 => ?_)
      · rw [if_pos c3]; exact pp_ret rfl h
      · rw [if_neg c3]; exact pp_lg c1 (pp_rg (by omega) (pp_ret rfl h))
    · rw [if_neg (by decide), if_neg (by decide), if_pos rfl, if_neg (by decide), if_pos rfl, show Int.toNat (80 + 4 * a + 2) = 82 + 4 * a.toNat by omega]
      refine pp_lg c1 (pp_rg (by omega) ?_)
      refine pp_r (fun c3 => pp_ret (g3c.mp c3) h) (fun c3 => pp_rg (by omega) (pp_ret g3 h))
    · rw [if_neg (by decide), if_neg (by decide), if_neg (by decide), if_pos rfl, if_neg (by decide), if_neg (by decide), show Int.toNat (80 + 4 * a + 3) = 83 + 4 * a.toNat by omega]
      exact pp_lg c1 (pp_rg (by omega) (pp_ret g4 h))
  · refine pp_br (fun q => absurd q c2) (fun _ => ?_)
    rw [if_neg (by omega), if_neg (by omega), if_neg (by omega), if_neg (by omega)]
    exact pp_ref h (by decide)
/-- a heap's age, and whether it is ripe, on both sides -/
theorem e_age {b : Nat} {σC σM : pm_M} {a : Int} (w : wr a = a) (hN : T_num b σC σM) (hH : T_hea b σC σM) (h0 : 0 ≤ a ∧ a < σC (b + 28) 5) : fX1_ageOf b a (σC b 7) σC = some ((σC b 7 - σC (b + 31) a.toNat) / 24) ∧ fX12_age a σM = some ((σC b 7 - σC (b + 31) a.toNat) / 24) := by
  obtain ⟨n1, n2, n3, -⟩ := hN
  obtain ⟨k1, k2, k3, k4, k5, k6⟩ := hH
  obtain ⟨g1, g2, ⟨g3, g3a, g3b⟩, g4⟩ := k6 a.toNat (by omega)
  have e1 : wr (σC b 7 - σC (b + 31) a.toNat) = σC b 7 - σC (b + 31) a.toNat := wr_eq (by omega) (by omega)
  have n1' : σM 25 (Int.toNat 751) = σC b 7 := n1.symm
  constructor
  · unfold fX1_ageOf pm_g
    rw [w, if_pos (by omega), e1, Int.tdiv_eq_ediv_of_nonneg (by omega)]
  · unfold fX12_age pm_g
    rw [w, if_pos (by omega), n1', ← g3, e1, Int.tdiv_eq_ediv_of_nonneg (by omega)]
theorem e_ripe {b : Nat} {σC σM : pm_M} {a : Int} (w : wr a = a) (hR : R_rag σC σM) (hN : T_num b σC σM) (hH : T_hea b σC σM) (h0 : 0 ≤ a ∧ a < σC (b + 28) 5) : fX1_isRipe b a (σC b 7) σC = some (if 0 < σC (b + 30) a.toNat ∧ σC 11 (σC (b + 29) a.toNat).toNat ≤ (σC b 7 - σC (b + 31) a.toNat) / 24 then 1 else 0) ∧ fX12_isRipe a σM = some (if 0 < σC (b + 30) a.toNat ∧ σC 11 (σC (b + 29) a.toNat).toNat ≤ (σC b 7 - σC (b + 31) a.toNat) / 24 then 1 else 0) := by
  obtain ⟨a1, a2⟩ := e_age w hN hH h0
  obtain ⟨n1, n2, n3, -⟩ := hN
  obtain ⟨k1, k2, k3, k4, k5, k6⟩ := hH
  obtain ⟨⟨g1, g1a, g1b⟩, ⟨g2, g2a, g2b⟩, ⟨g3, g3a, g3b⟩, g4⟩ := k6 a.toNat (by omega)
  obtain ⟨r1, r1a, r1b⟩ := hR.1 (σC (b + 29) a.toNat).toNat (by omega)
  have e1 : wr (σC (b + 30) a.toNat) = σC (b + 30) a.toNat := wr_eq (by omega) (by omega)
  have e2 : wr (σC (b + 29) a.toNat) = σC (b + 29) a.toNat := wr_eq (by omega) (by omega)
  have e3 : wr (σC 11 (σC (b + 29) a.toNat).toNat) = σC 11 (σC (b + 29) a.toNat).toNat := wr_eq (by omega) (by omega)
  have e4 : wr ((σC b 7 - σC (b + 31) a.toNat) / 24) = (σC b 7 - σC (b + 31) a.toNat) / 24 := wr_eq (by omega) (by omega)
  constructor
  · unfold fX1_isRipe pm_g
    rw [w, if_pos (show 0 ≤ a ∧ a < 40 by omega), e1, a1, Option.bind_some, e2, if_pos (show 0 ≤ σC (b + 29) a.toNat ∧ σC (b + 29) a.toNat < 9 by omega), e3, e4]
    try rw [if_pos (show 0 ≤ a ∧ a < 40 by omega)]
    by_cases c1 : σC (b + 30) a.toNat ≤ 0
    · rw [if_pos c1, if_neg (by omega)]
    · rw [if_neg c1]
      by_cases c2 : (σC b 7 - σC (b + 31) a.toNat) / 24 < σC 11 (σC (b + 29) a.toNat).toNat
      · rw [if_pos c2, if_neg (by omega)]
      · rw [if_neg c2, if_pos (by omega)]
  · unfold fX12_isRipe pm_g
    rw [show (0 : Int) + a = a by omega, w, if_pos (show 0 ≤ a ∧ a < 755 by omega), ← g2, e1, a2, Option.bind_some, if_pos (show 0 ≤ a ∧ a < 40 by omega), ← g1, e2, if_pos (show 0 ≤ σC (b + 29) a.toNat ∧ σC (b + 29) a.toNat < 9 by omega), ← r1, e3, e4]
    by_cases c1 : σC (b + 30) a.toNat ≤ 0
    · rw [if_pos c1, if_neg (by omega)]
    · rw [if_neg c1]
      by_cases c2 : (σC b 7 - σC (b + 31) a.toNat) / 24 < σC 11 (σC (b + 29) a.toNat).toNat
      · rw [if_pos c2, if_neg (by omega)]
      · rw [if_neg c2, if_pos (by omega)]
theorem s_heapOf : sp_heapOf pm_R := by
  intro x1 x2 σC σM h
  show pp_ pm_R _ _
  have w1 := wr_to x1
  have w2 := wr_to x2
  generalize x1.toInt = a at w1 ⊢
  generalize x2.toInt = r at w2 ⊢
  obtain ⟨hrf, hrg, hmo, hor, hol, hwe, ⟨t1, t2, t3, t4, t5, t6⟩, hmr, htr⟩ := id h
  obtain ⟨k1, k2, k3, k4, k5, k6⟩ := id t6
  have k1' : σC 43 5 = σM 0 15 := k1
  have k2' : 0 ≤ σC 43 5 := k2
  have k3' : σC 43 5 ≤ 40 := k3
  unfold fX11_heapOf fX12_heapOf
  have e : wr (σC 43 5) = σC 43 5 := wr_eq (by omega) (by omega)
  rw [← k1', e_num w1 e, e_in w1 e, w2, show (0 : Int) + a = a by omega, w1]
  refine pp_b (fun c1 => ?_) (fun _ => pp_ref h (by decide))
  obtain ⟨a1, a2⟩ := e_age w1 t1 t6 c1
  obtain ⟨b1, b2⟩ := e_ripe w1 hrg t1 t6 c1
  have g := k6 a.toNat (by show ((a.toNat : Nat) : Int) < σC 43 5; omega)
  simp only [Nat.reduceAdd] at g
  obtain ⟨⟨g1, -⟩, ⟨g2, -⟩, ⟨g3, -⟩, ⟨g4, -⟩⟩ := g
  have f1 : wr (40 + a) = 40 + a := wr_eq (by omega) (by omega)
  rw [f1, a1, a2, b1, b2]
  refine pp_2 (fun _ => pp_2g (by omega) (pp_ret g1 h)) (fun _ => ?_)
  refine pp_2 (fun _ => pp_lg (by omega) (pp_rg (by omega) (pp_ret g2 h))) (fun _ => ?_)
  refine pp_2 (fun _ => pp_ret rfl h) (fun _ => ?_)
  refine pp_2 (fun _ => pp_b (fun _ => pp_ret rfl h) (fun _ => pp_ret rfl h)) (fun _ => ?_)
  refine pp_2 (fun _ => pp_lg (by omega) (pp_rg (by omega) (pp_ret ?_ h))) (fun _ => pp_ref h (by decide))
  rw [show Int.toNat (40 + a) = 40 + a.toNat by omega]; exact g4
