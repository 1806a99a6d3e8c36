/-! ===== pairs that only read ===== -/
theorem pp_bl {R : pm_M → pm_M → Prop} {c : Prop} [Decidable c] {A B b : Option (Int × pm_M)} (h1 : c → pp_ R B b) (h2 : ¬ c → pp_ R A b) : pp_ R ((some (if c then (1 : Int) else 0)).bind fun q => if wr q = 0 then A else B) b := by
  rw [Option.bind_some]
  by_cases h : c
  · rw [if_pos h, if_neg (by decide)]; exact h1 h
  · rw [if_neg h, if_pos (by decide)]; exact h2 h
theorem pp_br {R : pm_M → pm_M → Prop} {c : Prop} [Decidable c] {A B a : Option (Int × pm_M)} (h1 : c → pp_ R a B) (h2 : ¬ c → pp_ R a A) : pp_ R a ((some (if c then (1 : Int) else 0)).bind fun q => if wr q = 0 then A else B) := by
  rw [Option.bind_some]
  by_cases h : c
  · rw [if_pos h, if_neg (by decide)]; exact h1 h
  · rw [if_neg h, if_pos (by decide)]; exact h2 h
theorem nat_at (f : Nat → Int) {x : Int} {n : Nat} (h : x = (n : Int)) : f (Int.toNat x) = f n := by rw [h, Int.toNat_natCast]
theorem s_vatOf : sp_vatOf pm_R := by
  intro x1 x2 σC σM h
  show pp_ pm_R _ _
  have w1 := wr_to x1
  have w2 := wr_to x2
  generalize x1.toInt = a at w1 ⊢
  generalize x2.toInt = r at w2 ⊢
  obtain ⟨hrf, hrg, hmo, hor, hol, hwe, ⟨t1, t2, ⟨u1, u2, u3, u4⟩, t4, ⟨t5, t5b⟩, t6⟩, hmr, htr⟩ := id h
  unfold fX11_vatOf fX12_vatOf
  rw [e_num w1 (wr_eq (by decide) (by decide)), e_in w1 (wr_eq (by decide) (by decide)), w1, w2]
  refine pp_b (fun c1 => ?_) (fun _ => pp_ref h (by decide))
  obtain ⟨g1, g2, g3, g4⟩ := t5 a.toNat (by omega)
  have f1 : wr (105 + 2 * a) = 105 + 2 * a := wr_eq (by omega) (by omega)
  have f2 : wr (105 + 2 * a + 1) = 105 + 2 * a + 1 := wr_eq (by omega) (by omega)
  rw [f1, f2]
  refine pp_2 (fun _ => ?_) (fun _ => ?_)
  · refine pp_2g c1 ?_
    have k1 : σC 38 a.toNat = -9 ∧ σM 14 a.toNat = -1 ∨ σC 38 a.toNat = σM 14 a.toNat ∧ 0 ≤ σC 38 a.toNat ∧ σC 38 a.toNat < σC 22 3 := g1
    have u3' : σC 22 3 ≤ 4 := u3
    rcases k1 with ⟨k1, k2⟩ | ⟨k1, k2, k3⟩
    · rw [k2, if_neg (by decide)]
      exact pp_ret k1 h
    · rw [wr_eq (x := σM 14 a.toNat) (by omega) (by omega), if_pos (by omega)]
      exact pp_rg c1 (pp_ret k1 h)
  refine pp_2 (fun _ => pp_2g c1 (pp_ret g2.1 h)) (fun _ => ?_)
  refine pp_2 (fun _ => pp_lg c1 (pp_rg (by omega) (pp_ret ?_ h))) (fun _ => ?_)
  · exact g3.1.trans (by rw [show Int.toNat (105 + 2 * a) = 105 + 2 * a.toNat by omega])
  refine pp_2 (fun _ => pp_lg c1 (pp_rg (by omega) (pp_ret ?_ h))) (fun _ => pp_ref h (by decide))
  exact g4.trans (by rw [show Int.toNat (105 + 2 * a + 1) = 106 + 2 * a.toNat by omega])
theorem s_mouldOf : sp_mouldOf pm_R := by
  intro x1 x2 σC σM h
  show pp_ pm_R _ _
  have w1 := wr_to x1
  have w2 := wr_to x2
  generalize x1.toInt = a at w1 ⊢
  generalize x2.toInt = r at w2 ⊢
  obtain ⟨hrf, hrg, hmo, hor, hol, hwe, ⟨t1, t2, ⟨u1, u2, u3, u4⟩, t4, t5, t6⟩, ⟨k1, k2, k3⟩, htr⟩ := id h
  have u1' : σC 22 3 = σM 0 16 := u1
  have u2' : 0 ≤ σC 22 3 := u2
  have u3' : σC 22 3 ≤ 4 := u3
  unfold fX11_mouldOf fX12_mouldOf fX11_isMould
  have e : wr (2 * σC 22 3) = 2 * σC 22 3 := wr_eq (by omega) (by omega)
  rw [← u1', e_num w1 e, e_in w1 e, Option.bind_some, e_num w2 (wr_eq (by decide) (by decide)), e_in w2 (wr_eq (by decide) (by decide)), w1, w2]
  have e2 : pm_g ((if 0 ≤ a ∧ a < 2 * σC 22 3 then (1 : Int) else 0) = 0 ∨ (if 0 ≤ a ∧ a < 2 * σC 22 3 then (1 : Int) else 0) = 1) (some (if 0 ≤ a ∧ a < 2 * σC 22 3 then (1 : Int) else 0)) = some (if 0 ≤ a ∧ a < 2 * σC 22 3 then 1 else 0) := by
    unfold pm_g
    rw [if_pos (by split <;> simp)]
  rw [e2]
  refine pp_b (fun c1 => ?_) (fun _ => pp_ref h (by decide))
  refine pp_b (fun c2 => ?_) (fun _ => pp_ref h (by decide))
  refine pp_2 (fun _ => pp_2g (by omega) (pp_ret (k2 _ (by omega)) h)) (fun c3 => ?_)
  unfold fX3_wireOf
  rw [show a * 6 + r = 6 * a + r by omega, wr_eq (x := 6 * a + r) (by omega) (by omega)]
  refine pp_rg (by omega) ?_
  unfold pm_g
  rw [if_pos (by omega), Option.bind_some]
  exact pp_ret (k1 _ (by omega)).1 h
theorem e_state {b : Nat} {σ : pm_M} {a : Int} (w : wr a = a) (h0 : 0 ≤ a ∧ a < 80) (h1 : -9 ≤ σ (b + 21) a.toNat ∧ σ (b + 21) a.toNat ≤ 60) (h2 : 0 ≤ σ (b + 11) 10 ∧ σ (b + 11) 10 ≤ 80) (h3 : 0 ≤ σ (b + 11) 9 ∧ σ (b + 11) 9 ≤ 80) : fX6_stateOf b a σ = some (if σ (b + 21) a.toNat ≠ -9 then 3 else if a < σ (b + 11) 10 then 2 else if a < σ (b + 11) 9 then 1 else 0) := by
  unfold fX6_stateOf pm_g
  rw [w, if_pos h0, wr_eq (x := σ (b + 21) a.toNat) (by omega) (by omega), wr_eq (x := σ (b + 11) 10) (by omega) (by omega), wr_eq (x := σ (b + 11) 9) (by omega) (by omega)]
  by_cases c1 : σ (b + 21) a.toNat = -9
  · rw [if_pos c1, if_neg (fun q : σ (b + 21) a.toNat ≠ -9 => q c1)]
    by_cases c2 : a < σ (b + 11) 10
    · rw [if_neg (show ¬ σ (b + 11) 10 ≤ a by omega), if_pos c2]
    · rw [if_pos (show σ (b + 11) 10 ≤ a by omega), if_neg c2]
      by_cases c3 : a < σ (b + 11) 9
      · rw [if_neg (show ¬ σ (b + 11) 9 ≤ a by omega), if_pos c3]
      · rw [if_pos (show σ (b + 11) 9 ≤ a by omega), if_neg c3]
  · rw [if_neg c1, if_pos c1]
theorem s_postOf : sp_postOf pm_R := by
  intro x1 x2 σC σM h
  show pp_ pm_R _ _
  have w1 := wr_to x1
  have w2 := wr_to x2
  generalize x1.toInt = a at w1 ⊢
  generalize x2.toInt = r at w2 ⊢
  obtain ⟨hrf, hrg, hmo, hor, hol, hwe, ⟨t1, t2, t3, ⟨p1, p2, p3, p4, p5, p6, p7, p8, p9, p10⟩, t5, t6⟩, hmr, htr⟩ := id h
  have q1 : σC 26 8 = σM 25 (Int.toNat 752) := p1
  have q2 : 0 ≤ σC 26 10 := p2
  have q3 : σC 26 10 ≤ σC 26 9 := p3
  have q4 : σC 26 9 ≤ σC 26 8 := p4
  have q5 : σC 26 8 ≤ 80 := p5
  unfold fX11_postOf fX12_postOf
  have e : wr (σC 26 8) = σC 26 8 := wr_eq (by omega) (by omega)
  rw [← q1, e_num w1 e, e_in w1 e, e_in w2 (wr_eq (by decide) (by decide)), w1, w2]
  refine pp_b (fun c1 => ?_) (fun _ => pp_ref h (by decide))
  have c0 : 0 ≤ a ∧ a < 80 := by omega
  have g := p9 a.toNat (by show ((a.toNat : Nat) : Int) < σC 26 8; omega)
  simp only [Nat.reduceAdd] at g
  have ea : ((a.toNat : Nat) : Int) = a := by omega
  rw [ea] at g
  obtain ⟨⟨g1, -⟩, ⟨g2, -⟩, ⟨g3, -⟩, ⟨g4, -⟩, ⟨g5, -⟩, g6, ⟨g7, g7b⟩, g8⟩ := g
  have hst := e_state (b := 15) (σ := σC) w1 c0 (by show -9 ≤ σC 36 a.toNat ∧ σC 36 a.toNat ≤ 60; omega) (by show 0 ≤ σC 26 10 ∧ σC 26 10 ≤ 80; omega) (by show 0 ≤ σC 26 9 ∧ σC 26 9 ≤ 80; omega)
  have hp : ∀ j : Nat, j < 8 → fX12_post a (j : Int) σM = some (σM 25 (111 + j + 8 * a.toNat)) := by
    intro j hj
    unfold fX12_post
    rw [wr_eq (x := 111 + 8 * a + (j : Int)) (by omega) (by omega)]
    unfold pm_g
    rw [if_pos (by omega), show Int.toNat (111 + 8 * a + (j : Int)) = 111 + j + 8 * a.toNat by omega]
  by_cases c2 : 0 ≤ r ∧ r < 8
  · refine pp_br (fun _ => ?_) (fun q => absurd c2 q)
    rcases (show r = ((0 : Nat) : Int) ∨ r = ((1 : Nat) : Int) ∨ r = ((2 : Nat) : Int) ∨ r = ((3 : Nat) : Int) ∨ r = ((4 : Nat) : Int) ∨ r = ((5 : Nat) : Int) ∨ r = ((6 : Nat) : Int) ∨ r = ((7 : Nat) : Int) by omega) with rfl | rfl | rfl | rfl | rfl | rfl | rfl | rfl
    · rw [hp 0 (by decide), if_pos (by decide), hst, Option.bind_some, Option.bind_some]
      exact pp_ret g8.symm h
    · rw [hp 1 (by decide), if_neg (by decide), if_pos (by decide), Option.bind_some]
      exact pp_lg c0 (pp_ret g1 h)
    · rw [hp 2 (by decide), if_neg (by decide), if_neg (by decide), if_pos (by decide), Option.bind_some]
      exact pp_lg c0 (pp_ret g2 h)
    · rw [hp 3 (by decide), if_neg (by decide), if_neg (by decide), if_neg (by decide), if_pos (by decide), Option.bind_some]
      exact pp_lg c0 (pp_ret g3 h)
    · rw [hp 4 (by decide), if_neg (by decide), if_neg (by decide), if_neg (by decide), if_neg (by decide), if_pos (by decide), Option.bind_some]
      exact pp_lg c0 (pp_ret g4 h)
    · rw [hp 5 (by decide), if_neg (by decide), if_neg (by decide), if_neg (by decide), if_neg (by decide), if_neg (by decide), if_pos (by decide), Option.bind_some]
      exact pp_lg c0 (pp_ret g5 h)
    · rw [hp 6 (by decide), if_neg (by decide), if_neg (by decide), if_neg (by decide), if_neg (by decide), if_neg (by decide), if_neg (by decide), if_pos (by decide), Option.bind_some]
      exact pp_lg c0 (pp_ret g6 h)
    · rw [hp 7 (by decide), if_neg (by decide), if_neg (by decide), if_neg (by decide), if_neg (by decide), if_neg (by decide), if_neg (by decide), if_neg (by decide), if_pos (by decide), Option.bind_some]
      exact pp_lg c0 (pp_ret g7 h)
  · refine pp_br (fun q => absurd q c2) (fun _ => ?_)
    rw [if_neg (by omega), if_neg (by omega), if_neg (by omega), if_neg (by omega), if_neg (by omega), if_neg (by omega), if_neg (by omega), if_neg (by omega)]
    exact pp_ref h (by decide)
theorem s_mark : sp_mark pm_R := by
  intro x1 x2 x3 σC σM h
  show pp_ pm_R _ _
  have w1 := wr_to x1
  have w2 := wr_to x2
  have w3 := wr_to x3
  generalize x1.toInt = a at w1 ⊢
  generalize x2.toInt = r at w2 ⊢
  generalize x3.toInt = t at w3 ⊢
  obtain ⟨hrf, hrg, hmo, hor, hol, hwe, ⟨t1, t2, t3, ⟨p1, p2, p3, p4, p5, p6⟩, t5, t6⟩, ⟨k1, k2, k3, k4, k5, k6, k7⟩, htr⟩ := id h
  have q1 : σC 26 8 = σM 25 (Int.toNat 752) := p1
  have q2 : 0 ≤ σC 26 10 := p2
  have q3 : σC 26 10 ≤ σC 26 9 := p3
  have q4 : σC 26 9 ≤ σC 26 8 := p4
  have q5 : σC 26 8 ≤ 80 := p5
  unfold fX11_mark fX12_mark
  have e : wr (σC 26 8) = σC 26 8 := wr_eq (by omega) (by omega)
  rw [← q1, e_num w1 e, e_in w1 e, e_num w2 (wr_eq (by decide) (by decide)), e_in w2 (wr_eq (by decide) (by decide)), e_num w3 (wr_eq (by decide) (by decide)), e_in w3 (wr_eq (by decide) (by decide))]
  refine pp_b (fun c1 => ?_) (fun _ => pp_ref h (by decide))
  refine pp_b (fun c2 => ?_) (fun _ => pp_ref h (by decide))
  refine pp_b (fun c3 => ?_) (fun _ => pp_ref h (by decide))
  obtain ⟨m1, m2, m3⟩ := k7 a.toNat (by omega)
  obtain ⟨m4, -, -⟩ := m3 r.toNat t.toNat (by omega) (by omega)
  rw [wr_eq (x := 6 * (60 * a + r) + t) (by omega) (by omega)]
  refine pp_rg (by omega) ?_
  rw [show Int.toNat (6 * (60 * a + r) + t) = 6 * (60 * a.toNat + r.toNat) + t.toNat by omega, m4]
  have hd : Int.tdiv r 2 = ((r.toNat / 2 : Nat) : Int) := by
    rw [Int.tdiv_eq_ediv_of_nonneg c2.1]; omega
  have hm : Int.tmod r 2 = ((r.toNat % 2 : Nat) : Int) := by
    rw [Int.tmod_eq_emod_of_nonneg c2.1]; omega
  have hgm : ∀ q : Nat, q < 4 → fX2_groupMark 15 a (q : Int) t σC = some (σC 28 ((a.toNat * 4 + q) * 6 + t.toNat)) := by
    intro q hq
    unfold fX2_groupMark pm_g
    rw [wr_eq (x := (a * 4 + (q : Int)) * 6 + t) (by omega) (by omega), if_pos (by omega), show Int.toNat ((a * 4 + (q : Int)) * 6 + t) = (a.toNat * 4 + q) * 6 + t.toNat by omega]
  have key : fX2_markOf 15 a r t σC = some (σC 28 ((a.toNat * 4 + (if ((r.toNat / 2 : Nat) : Int) < σC 29 a.toNat then r.toNat % 2 else r.toNat % 2 + 2)) * 6 + t.toNat)) := by
    unfold fX2_markOf
    rw [w1, w2, hd, hm]
    have e5 : wr (σC (15 + 14) a.toNat) = σC 29 a.toNat := wr_eq (by show _ ≤ σC 29 a.toNat; omega) (by show σC 29 a.toNat < _; omega)
    rw [e5, wr_eq (x := ((r.toNat / 2 : Nat) : Int)) (by omega) (by omega)]
    unfold pm_g
    rw [if_pos (by omega)]
    by_cases c5 : ((r.toNat / 2 : Nat) : Int) < σC 29 a.toNat
    · rw [if_neg (by omega), if_pos c5, hgm (r.toNat % 2) (by omega)]; rfl
    · rw [if_pos (by omega), if_neg c5, show ((r.toNat % 2 : Nat) : Int) + 2 = ((r.toNat % 2 + 2 : Nat) : Int) by omega, hgm (r.toNat % 2 + 2) (by omega)]; rfl
  rw [key, Option.bind_some]
  exact pp_ret rfl h
