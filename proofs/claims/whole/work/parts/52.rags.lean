theorem pp_2 {R : pm_M → pm_M → Prop} {c : Prop} [Decidable c] {x y x' y' : Option (Int × pm_M)} (h1 : c → pp_ R x x') (h2 : ¬ c → pp_ R y y') : pp_ R (if c then x else y) (if c then x' else y') := by
  by_cases h : c
  · rw [if_pos h, if_pos h]; exact h1 h
  · rw [if_neg h, if_neg h]; exact h2 h
theorem pp_2g {R : pm_M → pm_M → Prop} {c : Prop} [Decidable c] {x x' : Option (Int × pm_M)} (hc : c) (h : pp_ R x x') : pp_ R (pm_g c x) (pm_g c x') := pp_lg hc (pp_rg hc h)
theorem pp_b {R : pm_M → pm_M → Prop} {c : Prop} [Decidable c] {A A' B B' : Option (Int × pm_M)} (h1 : c → pp_ R B B') (h2 : ¬ c → pp_ R A A') : pp_ R ((some (if c then (1 : Int) else 0)).bind fun q => if wr q = 0 then A else B) ((some (if c then (1 : Int) else 0)).bind fun q => if wr q = 0 then A' else B') := by
  rw [Option.bind_some, Option.bind_some]
  by_cases h : c
  · rw [if_pos h, if_neg (by decide), if_neg (by decide)]; exact h1 h
  · rw [if_neg h, if_pos (by decide), if_pos (by decide)]; exact h2 h
theorem e_wt {w : Int} (h : wr w = w) : fX11_isWeight w = some (if 1 ≤ w ∧ w ≤ 8 then 1 else 0) := by
  unfold fX11_isWeight
  rw [h]
  by_cases h1 : w < 1
  · rw [if_pos h1, if_neg (by omega)]
  · rw [if_neg h1]
    by_cases h2 : 8 < w
    · rw [if_pos h2, if_neg (by omega)]
    · rw [if_neg h2, if_pos (by omega)]
theorem e_wtM {w : Int} (h : wr w = w) : fX12_isWeight w = some (if 1 ≤ w ∧ w ≤ 8 then 1 else 0) := by
  have hr := wr_rng w
  rw [h] at hr
  have key : fX12_isIn (w - 1) 8 = some (if 1 ≤ w ∧ w ≤ 8 then 1 else 0) := by
    by_cases hm : w = -2147483648
    · subst hm; decide
    · rw [e_in (wr_eq (by omega) (by omega)) (wr_eq (by decide) (by decide))]
      by_cases c : 0 ≤ w - 1 ∧ w - 1 < 8
      · rw [if_pos c, if_pos (by omega)]
      · rw [if_neg c, if_neg (by omega)]
  unfold fX12_isWeight
  rw [key, Option.bind_some]
  unfold pm_g
  rw [if_pos (by split <;> simp)]
theorem s_hides : sp_hides pm_R := by
  intro x1 σC σM h
  show pp_ pm_R _ _
  have w1 := wr_to x1
  generalize x1.toInt = a at w1 ⊢
  obtain ⟨hrf, hrg, ⟨hm1, hm2, hm3, hm4, hm5, hm6⟩, hrest⟩ := id h
  unfold fX11_hides fX12_hides
  rw [e_wrong w1 wr_1, Option.bind_some, w1, ← hm3]
  have e : wr (1000 - σC 0 9) = 1000 - σC 0 9 := wr_eq (by omega) (by omega)
  rw [e]
  by_cases c1 : 1 ≤ a
  · rw [if_pos c1, if_pos c1]
    by_cases c2 : a ≤ 1000 - σC 0 9
    · rw [if_pos c2, if_pos c2, if_pos wr_0]
      refine pp_ret ?_ ?_
      · rw [pm_up_c, pm_up_c]; simp
      · refine ⟨hrf, hrg, ⟨hm1, hm2, ?_, ?_, ?_, hm6⟩, hrest⟩
        · show σC 0 9 + a = σC 0 9 + a; rfl
        · show 0 ≤ σC 0 9 + a; omega
        · show σC 0 9 + a ≤ 1000; omega
    · rw [if_neg c2, if_neg c2, if_neg (by decide)]
      exact pp_ref h (by decide)
  · rw [if_neg c1, if_neg c1, if_neg (by decide)]
    exact pp_ref h (by decide)
theorem s_kind : sp_kind pm_R := by
  intro x1 x2 x3 x4 σC σM h
  show pp_ pm_R _ _
  have w1 := wr_to x1
  have w2 := wr_to x2
  have w3 := wr_to x3
  have w4 := wr_to x4
  generalize x1.toInt = a at w1 ⊢
  generalize x2.toInt = r at w2 ⊢
  generalize x3.toInt = p at w3 ⊢
  generalize x4.toInt = t at w4 ⊢
  obtain ⟨hrf, ⟨h1, h2, h3, h4⟩, hrest⟩ := id h
  unfold fX11_kind fX12_kind
  rw [e_num w1 (wr_eq (by decide) (by decide)), e_kind w1, w1, w2, w3, w4]
  refine pp_b (fun c1 => ?_) (fun _ => pp_ref h (by decide))
  refine pp_2 (fun _ => pp_ref h (by decide)) (fun c2 => ?_)
  refine pp_2 (fun _ => pp_ref h (by decide)) (fun c3 => ?_)
  refine pp_2 (fun c4 => ?_) (fun _ => pp_ref h (by decide))
  refine pp_2 (fun _ => pp_ref h (by decide)) (fun c5 => ?_)
  refine pp_2 (fun _ => pp_ref h (by decide)) (fun c6 => ?_)
  refine pp_2 (fun c7 => ?_) (fun _ => pp_ref h (by decide))
  refine pp_2g c1 (pp_2g c1 (pp_2g c1 (pp_ret rfl ?_)))
  refine ⟨hrf, ⟨?_, ?_, ?_, h4⟩, hrest⟩
  · simp only [pm_up_c]; exact r_eq_up h1 (by omega) (by omega)
  · simp only [pm_up_c]; exact r_eq_up h2 (by omega) (by omega)
  · simp only [pm_up_c]; exact r_eq_up h3 (by omega) (by omega)
theorem s_furnish : sp_furnish pm_R := by
  intro x1 x2 σC σM h
  show pp_ pm_R _ _
  have w1 := wr_to x1
  have w2 := wr_to x2
  generalize x1.toInt = a at w1 ⊢
  generalize x2.toInt = r at w2 ⊢
  obtain ⟨hrf, hrg, hmo, hor, hol, hwe, ⟨t1, t2, t3, t4, ⟨t5, t5b⟩, t6⟩, hmr, htr⟩ := id h
  unfold fX11_furnish fX12_furnish
  rw [e_num w1 (wr_eq (by decide) (by decide)), e_in w1 (wr_eq (by decide) (by decide)), e_num w2 (wr_eq (by decide) (by decide)), e_kind w2, w1]
  refine pp_b (fun c1 => ?_) (fun _ => pp_ref h (by decide))
  refine pp_b (fun c2 => ?_) (fun _ => pp_ref h (by decide))
  refine pp_2g c1 (pp_2g c1 (pp_ret ?_ ?_))
  · exact (t5 a.toNat (by omega)).2.1.1
  · refine ⟨hrf, hrg, hmo, hor, hol, hwe, ⟨t1, t2, t3, t4, ⟨?_, t5b⟩, t6⟩, hmr, htr⟩
    intro v hv
    obtain ⟨g1, g2, g3, g4⟩ := t5 v hv
    refine ⟨g1, ?_, g3, g4⟩
    simp only [pm_up_c]
    show (if v = a.toNat then r else σC 39 v) = (if v = a.toNat then r else σM 15 v) ∧ 0 ≤ (if v = a.toNat then r else σC 39 v) ∧ (if v = a.toNat then r else σC 39 v) ≤ 8
    by_cases e : v = a.toNat
    · simp only [if_pos e]; exact ⟨trivial, by omega, by omega⟩
    · simp only [if_neg e]; exact g2
theorem s_loft : sp_loft pm_R := by
  intro x1 σC σM h
  show pp_ pm_R _ _
  have w1 := wr_to x1
  generalize x1.toInt = a at w1 ⊢
  obtain ⟨hrf, hrg, hmo, hor, hol, hwe, ⟨t1, t2, t3, ⟨p1, p2, p3, p4, p5, p6, p7, p8, p9⟩, t5, t6⟩, hmr, htr⟩ := id h
  unfold fX11_loft fX12_loft
  rw [e_wrong w1 wr_0, Option.bind_some, w1, wr_eq (x := 40) (by decide) (by decide)]
  by_cases c1 : 0 ≤ a
  · rw [if_pos c1, if_pos c1]
    by_cases c2 : a ≤ 40
    · rw [if_pos c2, if_pos c2, if_pos wr_0]
      refine pp_ret p6 ?_
      exact ⟨hrf, hrg, hmo, hor, hol, hwe, ⟨t1, t2, t3, ⟨p1, p2, p3, p4, p5, rfl, c1, c2, p9⟩, t5, t6⟩, hmr, htr⟩
    · rw [if_neg c2, if_neg c2, if_neg (by decide)]
      exact pp_ref h (by decide)
  · rw [if_neg c1, if_neg c1, if_neg (by decide)]
    exact pp_ref h (by decide)
theorem s_duty : sp_duty pm_R := by
  intro x1 x2 σC σM h
  show pp_ pm_R _ _
  have w1 := wr_to x1
  have w2 := wr_to x2
  generalize x1.toInt = a at w1 ⊢
  generalize x2.toInt = r at w2 ⊢
  obtain ⟨hrf, hrg, ⟨m1, m2⟩, hrest⟩ := id h
  unfold fX11_duty fX12_duty
  rw [e_wt w1, e_wtM w1, e_wrong w2 wr_0, wr_eq (x := 99) (by decide) (by decide), w1, w2]
  refine pp_b (fun c1 => ?_) (fun _ => ?_)
  · unfold jnX12_duty_18
    rw [w1]
    by_cases c2 : 0 ≤ r
    · rw [if_pos c2, if_pos c2]
      by_cases c3 : r ≤ 99
      · rw [if_pos c3, if_pos c3, Option.bind_some, if_pos wr_0]
        have c4 : 0 ≤ a ∧ a < 9 := by omega
        refine pp_2g c4 (pp_2g c4 (pp_ret (m1 a.toNat (by omega)).1 ?_))
        refine ⟨hrf, hrg, ⟨?_, m2⟩, hrest⟩
        simp only [pm_up_c]
        exact r_eq_up m1 (by omega) (by omega)
      · rw [if_neg c3, if_neg c3, Option.bind_some, if_neg (by decide)]
        exact pp_ref h (by decide)
    · rw [if_neg c2, if_neg c2, Option.bind_some, if_neg (by decide)]
      exact pp_ref h (by decide)
  · unfold jnX12_duty_18
    rw [if_neg (by decide)]
    exact pp_ref h (by decide)
theorem s_rags : sp_rags pm_R := by
  intro x1 x2 σC σM h
  show pp_ pm_R _ _
  have w1 := wr_to x1
  have w2 := wr_to x2
  generalize x1.toInt = a at w1 ⊢
  generalize x2.toInt = r at w2 ⊢
  obtain ⟨hrf, ⟨h1, h2, h3, h4⟩, hrest⟩ := id h
  unfold fX11_rags fX12_rags
  rw [e_num w1 (wr_eq (by decide) (by decide)), e_kind w1, w1, w2]
  refine pp_b (fun c1 => ?_) (fun _ => ?_)
  · obtain ⟨g1, g2, g3⟩ := h4 a.toNat (by omega)
    refine pp_rg c1 ?_
    rw [e_wrong w2 wr_1, Option.bind_some, ← g1]
    have e : wr (20000 - σC 14 a.toNat) = 20000 - σC 14 a.toNat := wr_eq (by omega) (by omega)
    rw [e]
    unfold jnX12_rags_27
    rw [w1]
    by_cases c2 : 1 ≤ r
    · rw [if_pos c2, if_pos c2]
      refine pp_lg c1 ?_
      by_cases c3 : r ≤ 20000 - σC 14 a.toNat
      · rw [if_pos c3, if_pos c3, if_pos wr_0]
        refine pp_2g c1 (pp_2g c1 (pp_2g c1 (pp_ret ?_ ?_)))
        · rw [pm_up_c, pm_up_c]; simp [g1]
        · refine ⟨hrf, ⟨h1, h2, h3, ?_⟩, hrest⟩
          simp only [pm_up_c]
          rw [← g1]
          exact r_eq_up h4 (by omega) (by omega)
      · rw [if_neg c3, if_neg c3, if_neg (by decide)]
        exact pp_ref h (by decide)
    · rw [if_neg c2, if_neg c2, if_neg (by decide)]
      exact pp_ref h (by decide)
  · unfold jnX12_rags_27
    rw [if_neg (by decide)]
    exact pp_ref h (by decide)
theorem s_orderOf : sp_orderOf pm_R := by
  intro x1 x2 σC σM h
  show pp_ pm_R _ _
  have w1 := wr_to x1
  have w2 := wr_to x2
  generalize x1.toInt = a at w1 ⊢
  generalize x2.toInt = r at w2 ⊢
  obtain ⟨hrf, hrg, hmo, ⟨o1, o2, o3, o4⟩, hrest⟩ := id h
  unfold fX11_orderOf fX12_orderOf
  have e : wr (σC 81 6) = σC 81 6 := wr_eq (by omega) (by omega)
  rw [← o1, e_num w1 e, e_in w1 e, w1, w2]
  refine pp_b (fun c1 => ?_) (fun _ => pp_ref h (by decide))
  have c2 : 0 ≤ a ∧ a < 12 := by omega
  obtain ⟨⟨g1, -⟩, ⟨g2, -⟩, ⟨g3, -⟩, ⟨g4, -⟩, ⟨g5, -⟩, g6, -⟩ := o4 a.toNat (by omega)
  refine pp_2 (fun _ => pp_2g c2 (pp_ret g1 h)) (fun _ => ?_)
  refine pp_2 (fun _ => pp_2g c2 (pp_ret g2 h)) (fun _ => ?_)
  refine pp_2 (fun _ => pp_2g c2 (pp_ret g3 h)) (fun _ => ?_)
  refine pp_2 (fun _ => pp_2g c2 (pp_ret g4 h)) (fun _ => ?_)
  refine pp_2 (fun _ => pp_2g c2 (pp_ret g5 h)) (fun _ => ?_)
  exact pp_2 (fun _ => pp_2g c2 (pp_ret g6 h)) (fun _ => pp_ref h (by decide))
theorem pp_eta {R : pm_M → pm_M → Prop} {a b : Option (Int × pm_M)} (h : pp_ R a b) : pp_ R (a.bind fun q => some (q.1, q.2)) (b.bind fun q => some (q.1, q.2)) := by
  obtain ⟨ρ, ρ', e1, e2, h1, h2⟩ := h
  exact ⟨ρ, ρ', by rw [e1]; rfl, by rw [e2]; rfl, h1, h2⟩
theorem s_olds {σC σM : pm_M} (h : pm_R σC σM) {f a r t : Int} (hf : f = 0 ∨ f = 3) (w1 : wr a = a) (w2 : wr r = r) (w3 : wr t = t) : pp_ pm_R (fX11_readOld f a r t σC) (fX12_olds f a r t σM) := by
  obtain ⟨hrf, hrg, hmo, hor, hol, hrest⟩ := id h
  have f0 : wr f = f := wr_eq (by omega) (by omega)
  have f1 : wr (f + 1) = f + 1 := wr_eq (by omega) (by omega)
  have f2 : wr (f + 2) = f + 2 := wr_eq (by omega) (by omega)
  unfold fX11_readOld fX12_olds
  rw [w1, w2, w3, f0, f1, f2]
  refine pp_2 (fun _ => pp_ref h (by decide)) (fun c2 => ?_)
  refine pp_2 (fun _ => pp_ref h (by decide)) (fun c3 => ?_)
  refine pp_2 (fun c4 => ?_) (fun _ => pp_ref h (by decide))
  refine pp_2 (fun _ => pp_ref h (by decide)) (fun c5 => ?_)
  refine pp_2 (fun _ => pp_ref h (by decide)) (fun c6 => ?_)
  refine pp_2 (fun c7 => ?_) (fun _ => pp_ref h (by decide))
  refine pp_2g (by omega) (pp_2g (by omega) (pp_2g (by omega) (pp_ret rfl ?_)))
  refine ⟨hrf, hrg, hmo, hor, ?_, hrest⟩
  unfold R_old
  simp only [pm_up_c]
  exact r_eq_up (r_eq_up (r_eq_up hol (by omega) (by omega)) (by omega) (by omega)) (by omega) (by omega)
theorem s_oldA : sp_oldA pm_R := by
  intro x1 x2 x3 σC σM h
  exact pp_eta (s_olds h (Or.inl rfl) (wr_to x1) (wr_to x2) (wr_to x3))
theorem s_oldB : sp_oldB pm_R := by
  intro x1 x2 x3 σC σM h
  exact pp_eta (s_olds h (Or.inr rfl) (wr_to x1) (wr_to x2) (wr_to x3))
theorem s_sheets : sp_sheets pm_R := by
  intro x1 x2 σC σM h
  show pp_ pm_R _ _
  have w1 := wr_to x1
  have w2 := wr_to x2
  generalize x1.toInt = a at w1 ⊢
  generalize x2.toInt = r at w2 ⊢
  obtain ⟨hrf, hrg, ⟨m1, m2, m3⟩, hrest⟩ := id h
  unfold fX11_sheets fX12_sheets fX11_shelfOf
  rw [e_num w1 (wr_eq (by decide) (by decide)), e_kind w1, e_wt w2, e_wtM w2]
  refine pp_b (fun c1 => ?_) (fun _ => pp_ref h (by decide))
  refine pp_b (fun c2 => ?_) (fun _ => pp_ref h (by decide))
  rw [Option.bind_some, show a * 9 + r = 9 * a + r by omega, wr_eq (x := 9 * a + r) (by omega) (by omega)]
  refine pp_2g (by omega) (pp_ret (m2 _ (by omega)) h)
