/-! ===== an hour: one sheet, both sides ===== -/
def V_M (b : Nat) (σC σM : pm_M) : Prop := (b = 15 ∧ σM 0 32 = 0 ∧ R_mrk σC σM ∧ ∀ i, i < 36 → 0 ≤ σC 42 i ∧ σC 42 i ≤ 99) ∨ σM 0 32 = 1
def V_I (b : Nat) (B : Int) (σC σM : pm_M) : Prop := T_num b σC σM ∧ T_mou b σC σM ∧ T_pos b σC σM ∧ T_vat b σC σM ∧ (∀ i, i < 8 → σC (b + 10) i ≤ B) ∧ V_M b σC σM
def V_F (b : Nat) (σC0 σM0 σC σM : pm_M) : Prop := (∀ c, c ≠ b + 1 → c ≠ b + 9 → c ≠ b + 10 → c ≠ b + 11 → c ≠ b + 13 → c ≠ b + 14 → (c < b + 15 ∨ b + 21 < c) → c ≠ b + 22 → c ≠ b + 25 → c ≠ b + 26 → c ≠ b + 27 → σC c = σC0 c) ∧ (∀ c, c ≠ 25 → c ≠ 12 → c ≠ 13 → c ≠ 22 → c ≠ 23 → σM c = σM0 c) ∧ (σM0 0 32 = 1 → ∀ c, c ≠ 25 → σM c = σM0 c) ∧ (∀ j, (j < 96 ∨ j = 751 ∨ j = 754) → σM 25 j = σM0 25 j)
theorem V_F_refl {b : Nat} {σC σM : pm_M} : V_F b σC σM σC σM := ⟨fun _ _ _ _ _ _ _ _ _ _ _ _ => rfl, fun _ _ _ _ _ _ => rfl, fun _ _ _ => rfl, fun _ _ => rfl⟩
theorem V_F_trans {b : Nat} {σC σM σC1 σM1 σC2 σM2 : pm_M} (h1 : V_F b σC σM σC1 σM1) (h2 : V_F b σC1 σM1 σC2 σM2) : V_F b σC σM σC2 σM2 := by
  obtain ⟨a1, a2, a3, a4⟩ := h1
  obtain ⟨b1, b2, b3, b4⟩ := h2
  refine ⟨fun c q1 q2 q3 q4 q5 q6 q7 q8 q9 q10 q11 => by rw [b1 c q1 q2 q3 q4 q5 q6 q7 q8 q9 q10 q11, a1 c q1 q2 q3 q4 q5 q6 q7 q8 q9 q10 q11], fun c q1 q2 q3 q4 q5 => by rw [b2 c q1 q2 q3 q4 q5, a2 c q1 q2 q3 q4 q5], fun h c hc => ?_, fun j hj => by rw [b4 j hj, a4 j hj]⟩
  rw [b3 (by rw [a3 h 0 (by decide)]; exact h) c hc, a3 h c hc]
section VS
variable {b v p k g P : Nat} {B : Int} {σC σM σ1 σC' σM' : pm_M}
set_option maxHeartbeats 8000000 in
theorem h_sheet (I : V_I b B σC σM) (hv : v < 3) (hpr : 0 ≤ σC (b + 23) v) (hdn : σC (b + 11) 8 < 80) (hB : B + 1 ≤ 60 * σC b 7) (z : Int) : ∃ σC' σM' : pm_M, ((fX8_makeSheet b v σC).bind fun q5 => pm_g (0 ≤ (wr (v : Int)) ∧ (wr (v : Int)) < 3) (if (wr (q5 (b + 25) (Int.toNat (wr (v : Int))))) = 60 then ((fX8_endPost b v (σC b 7) q5).bind fun q9 => some (Sum.inr (α := Int × pm_M) ((z + 1), q9))) else (some (.inr ((z + 1), q5))))) = some (.inr (z + 1, σC')) ∧ fX12_sheet v σM = some σM' ∧ V_I b (B + 1) σC' σM' ∧ V_F b σC σM σC' σM' := by
  obtain ⟨t1, t3, t4, t5, tB, tM⟩ := I
  have F := fun v (hv : v < 3) => v_fact t3 t5 hv
  obtain ⟨g1, ⟨g2, g2a, g2b⟩, ⟨g3, g3a, g3b⟩, g4, g5⟩ := F v hv
  obtain ⟨n1, n2, n3, n4⟩ := id t1
  obtain ⟨u1, u2, u3, u4, u5, u6⟩ := id t3
  obtain ⟨p1, p2, p3, p4, p5, p6, p7, p8, p9, p10, p11⟩ := id t4
  obtain ⟨v1, v2, v3⟩ := id t5
  obtain ⟨p, hp⟩ := Int.eq_ofNat_of_zero_le hpr
  obtain ⟨k, hk⟩ := Int.eq_ofNat_of_zero_le g2a
  obtain ⟨g, hg⟩ := Int.eq_ofNat_of_zero_le g3a
  obtain ⟨P, hP⟩ := Int.eq_ofNat_of_zero_le (show 0 ≤ σC (b + 11) 8 by omega)
  have hpp : (p : Int) < σC (b + 7) 3 := by
    obtain ⟨x1, -⟩ := v1 v hv
    omega
  have hw := u4 p (by omega)
  obtain ⟨σ1, s0, s1, s2, s3, s4, s5, s6, s7⟩ := c_sheet (b := b) (v := v) (p := p) (k := k) (g := g) hv hp (by omega) hk (by omega) hg (by omega) (fun i hi => by have := u6 i hi; omega) u5
  have mfl : (σM 0 32 = 0 ∧ (∀ i, i < 8 → 0 ≤ σM 13 i ∧ σM 13 i ≤ 200000) ∧ (∀ i, i < 48 → 0 ≤ σM 12 i ∧ σM 12 i ≤ 99)) ∨ σM 0 32 = 1 := by
    rcases tM with ⟨rfl, h1, h2, -⟩ | h
    · left
      refine ⟨h1, fun i hi => ?_, fun i hi => ?_⟩
      · have a := h2.2.1 i hi
        have c := u6 i hi
        have c' : 0 ≤ σC 25 i ∧ σC 25 i ≤ 60 * σC 15 7 := c
        omega
      · have a := h2.1 i hi
        omega
    · exact Or.inr h
  obtain ⟨σM', m0, m1, m2, m3, m4, m5, m6, m7, m8, m9⟩ := m_sheet (τ := σM) (v := v) (p := p) (k := k) (g := g) (P := P) hv (by omega) (by omega) (by omega) (by omega) (by omega) (by omega) (by omega) (by omega) mfl
  have o0 : σ1 b = σC b := s1 b (by omega) (by omega) (by omega) (by omega) (by omega) (by omega)
  have o7 : σ1 (b + 7) = σC (b + 7) := s1 _ (by omega) (by omega) (by omega) (by omega) (by omega) (by omega)
  have o8 : σ1 (b + 8) = σC (b + 8) := s1 _ (by omega) (by omega) (by omega) (by omega) (by omega) (by omega)
  have o11 : σ1 (b + 11) = σC (b + 11) := s1 _ (by omega) (by omega) (by omega) (by omega) (by omega) (by omega)
  have o23 : σ1 (b + 23) = σC (b + 23) := s1 _ (by omega) (by omega) (by omega) (by omega) (by omega) (by omega)
  have o24 : σ1 (b + 24) = σC (b + 24) := s1 _ (by omega) (by omega) (by omega) (by omega) (by omega) (by omega)
  have o26 : σ1 (b + 26) = σC (b + 26) := s1 _ (by omega) (by omega) (by omega) (by omega) (by omega) (by omega)
  have oM0 : σM' 0 = σM 0 := m1 0 (by decide) (by decide) (by decide) (by decide) (by decide)
  have oM11 : σM' 11 = σM 11 := m1 11 (by decide) (by decide) (by decide) (by decide) (by decide)
  have oM14 : σM' 14 = σM 14 := m1 14 (by decide) (by decide) (by decide) (by decide) (by decide)
  have oM15 : σM' 15 = σM 15 := m1 15 (by decide) (by decide) (by decide) (by decide) (by decide)
  have h751 : σM' 25 751 = σM 25 751 := m9 751 (by omega) (by omega) (by omega) (fun _ => by omega)
  -- the parts that both ends share
  have N : ∀ σ : pm_M, σ b = σC b → σ (b + 1) = σ1 (b + 1) → T_num b σ σM' := by
    intro σ e0 e1
    refine ⟨by rw [e0, h751]; exact n1, by rw [e0]; exact n2, by rw [e0]; exact n3, fun i hi => ?_⟩
    rw [e1, s2 i]
    by_cases e : i = k
    · subst e
      rw [if_pos rfl, m4, n4 i hi, hw.1]
    · rw [if_neg e, m9 (96 + i) (by omega) (by omega) (by omega) (fun _ => by omega)]
      exact n4 i hi
  have mb : ∀ i, i < 8 → 0 ≤ σ1 (b + 10) i ∧ σ1 (b + 10) i ≤ B + 1 := by
    intro i hi
    rw [s4 i]
    have a := u6 i hi
    have c := tB i hi
    split <;> omega
  have M : ∀ σ : pm_M, σ b = σC b → σ (b + 7) = σC (b + 7) → σ (b + 8) = σC (b + 8) → σ (b + 9) = σ1 (b + 9) → σ (b + 10) = σ1 (b + 10) → T_mou b σ σM' := by
    intro σ e0 e7 e8 e9 e10
    refine ⟨by rw [e7, oM0]; exact u1, by rw [e7]; exact u2, by rw [e7]; exact u3, by rw [e7, e8, oM11]; exact u4, ?_, fun i hi => ?_⟩
    · rw [e9, s3]
      exact wrow_b u5
    · rw [e10, e0]
      have := mb i hi
      omega
  have W : ∀ (σ : pm_M) (y : Int), 0 ≤ y → y < 60 → σM' 25 (105 + 2 * v) = y → σ (b + 7) = σC (b + 7) → σ (b + 23) = σC (b + 23) → σ (b + 24) = σC (b + 24) → (∀ i, σ (b + 25) i = if i = v then y else σC (b + 25) i) → σ (b + 26) = σC (b + 26) → σ (b + 22) 8 = σ1 (b + 22) 8 → T_vat b σ σM' := by
    intro σ y y0 y6 ym e7 e23 e24 e25 e26 e22
    unfold T_vat
    rw [e7, e23, e24, e26, e22, oM14, oM15]
    refine ⟨fun u hu => ?_, v2, by rw [s5, m5, v3]⟩
    obtain ⟨x1, x2, ⟨x3, x4, x5, x6⟩, x7⟩ := v1 u hu
    rw [m9 (106 + 2 * u) (by omega) (by omega) (by omega) (fun _ => by omega)]
    refine ⟨x1, x2, ?_, x7⟩
    rw [e25 u]
    by_cases e : u = v
    · subst e
      rw [if_pos rfl, ym]
      exact ⟨rfl, y0, y6, fun q => by omega⟩
    · rw [if_neg e, m9 (105 + 2 * u) (by omega) (by omega) (by omega) (fun _ => by omega)]
      exact ⟨x3, x4, x5, x6⟩
  have FC : ∀ c, c ≠ b + 1 → c ≠ b + 9 → c ≠ b + 10 → c ≠ b + 22 → c ≠ b + 25 → c ≠ b + 27 → σ1 c = σC c := s1
  have fm : ∀ j, (j < 96 ∨ j = 751 ∨ j = 754) → σM' 25 j = σM 25 j := fun j hj => m9 j (by omega) (by omega) (by omega) (fun _ => by omega)
  by_cases cg : g = 59
  · -- a post is done
    have r25 : σ1 (b + 25) v = 60 := by rw [s6 v, if_pos rfl, cg]; rfl
    obtain ⟨σ2, w0, w1, w2, w3, w15, w16, w17, w18, w19, w20, w21, w25, w13, w14⟩ := c_end (b := b) (v := v) (p := p) (k := k) (P := P) (h := σC b 7) (σ := σ1) hv (by rw [o23]; exact hp) (by omega) (by rw [o24]; exact hk) (by rw [o11]; exact hP) (by omega) (by have := mb (2 * p) (by omega); omega)
    have x0 : σ2 b = σC b := by rw [w1 b (by omega) (by omega) (by omega) (by omega) (by omega), o0]
    have x1 : σ2 (b + 1) = σ1 (b + 1) := w1 _ (by omega) (by omega) (by omega) (by omega) (by omega)
    have x7 : σ2 (b + 7) = σC (b + 7) := by rw [w1 _ (by omega) (by omega) (by omega) (by omega) (by omega), o7]
    have x8 : σ2 (b + 8) = σC (b + 8) := by rw [w1 _ (by omega) (by omega) (by omega) (by omega) (by omega), o8]
    have x9 : σ2 (b + 9) = σ1 (b + 9) := w1 _ (by omega) (by omega) (by omega) (by omega) (by omega)
    have x10 : σ2 (b + 10) = σ1 (b + 10) := w1 _ (by omega) (by omega) (by omega) (by omega) (by omega)
    have x22 : σ2 (b + 22) = σ1 (b + 22) := w1 _ (by omega) (by omega) (by omega) (by omega) (by omega)
    have x23 : σ2 (b + 23) = σC (b + 23) := by rw [w1 _ (by omega) (by omega) (by omega) (by omega) (by omega), o23]
    have x24 : σ2 (b + 24) = σC (b + 24) := by rw [w1 _ (by omega) (by omega) (by omega) (by omega) (by omega), o24]
    have x26 : σ2 (b + 26) = σC (b + 26) := by rw [w1 _ (by omega) (by omega) (by omega) (by omega) (by omega), o26]
    have x27 : σ2 (b + 27) = σ1 (b + 27) := w1 _ (by omega) (by omega) (by omega) (by omega) (by omega)
    have y15 : σ1 (b + 15) = σC (b + 15) := s1 _ (by omega) (by omega) (by omega) (by omega) (by omega) (by omega)
    have y16 : σ1 (b + 16) = σC (b + 16) := s1 _ (by omega) (by omega) (by omega) (by omega) (by omega) (by omega)
    have y17 : σ1 (b + 17) = σC (b + 17) := s1 _ (by omega) (by omega) (by omega) (by omega) (by omega) (by omega)
    have y18 : σ1 (b + 18) = σC (b + 18) := s1 _ (by omega) (by omega) (by omega) (by omega) (by omega) (by omega)
    have y19 : σ1 (b + 19) = σC (b + 19) := s1 _ (by omega) (by omega) (by omega) (by omega) (by omega) (by omega)
    have y20 : σ1 (b + 20) = σC (b + 20) := s1 _ (by omega) (by omega) (by omega) (by omega) (by omega) (by omega)
    have y21 : σ1 (b + 21) = σC (b + 21) := s1 _ (by omega) (by omega) (by omega) (by omega) (by omega) (by omega)
    rw [if_pos cg] at m6 m7
    obtain ⟨q0, q1, q2, q3, q4, q5, q6, q7⟩ := m8 cg
    have f9 : σ2 (b + 11) 9 = σC (b + 11) 9 := by rw [w3 9 (by decide), o11]
    have f10 : σ2 (b + 11) 10 = σC (b + 11) 10 := by rw [w3 10 (by decide), o11]
    have f11 : σ2 (b + 11) 11 = σC (b + 11) 11 := by rw [w3 11 (by decide), o11]
    refine ⟨σ2, σM', ?_, m0, ⟨N σ2 x0 x1, M σ2 x0 x7 x8 x9 x10, ?_, W σ2 0 (by decide) (by decide) m6 x7 x23 x24 (fun i => ?_) x26 (by rw [x22]), fun i hi => by rw [x10]; exact (mb i hi).2, ?_⟩, ?_⟩
    · rw [s0, Option.bind_some]
      simp (disch := omega) only [wr_eq, pm_gt, Int.toNat_natCast, r25, if_pos, if_true, w0, Option.bind_some]
    · unfold T_pos
      rw [f9, f10, f11, x0, x7, oM0, w2, m7]
      refine ⟨rfl, p2, p3, by omega, by omega, p6, p7, p8, fun i hi => ?_, fun i j h1 h2 h3 => ?_, fun i j h1 h2 => ?_⟩
      · rw [w15 i, w16 i, w17 i, w18 i, w19 i, w20 i, w21 i]
        by_cases e : i = P
        · subst e
          simp (disch := omega) only [if_pos, if_neg, if_true, q0, q1, q2, q3, q4, q5, q6, q7]
          exact ⟨⟨trivial, by omega, hpp⟩, ⟨trivial, by omega, by omega⟩, ⟨n1, by omega, by omega⟩, ⟨trivial, trivial⟩, ⟨trivial, by omega, by omega, trivial⟩, trivial, ⟨trivial, Or.inl trivial⟩, trivial⟩
        · rw [if_neg e, if_neg e, if_neg e, if_neg e, if_neg e, if_neg e, if_neg e, y15, y16, y17, y18, y19, y20, y21]
          rw [m9 (111 + 8 * i) (by omega) (by omega) (by omega) (fun _ => by omega), m9 (112 + 8 * i) (by omega) (by omega) (by omega) (fun _ => by omega), m9 (113 + 8 * i) (by omega) (by omega) (by omega) (fun _ => by omega), m9 (114 + 8 * i) (by omega) (by omega) (by omega) (fun _ => by omega), m9 (115 + 8 * i) (by omega) (by omega) (by omega) (fun _ => by omega), m9 (116 + 8 * i) (by omega) (by omega) (by omega) (fun _ => by omega), m9 (117 + 8 * i) (by omega) (by omega) (by omega) (fun _ => by omega), m9 (118 + 8 * i) (by omega) (by omega) (by omega) (fun _ => by omega)]
          exact p9 i (by omega)
      · rw [w19 i, w19 j, if_neg (by omega), if_neg (by omega), y19]
        exact p10 i j h1 h2 h3
      · rw [w17 i, w17 j]
        by_cases e : j = P
        · rw [if_pos e]
          by_cases e2 : i = P
          · rw [if_pos e2]; exact Int.le_refl _
          · rw [if_neg e2, y17]
            obtain ⟨-, -, ⟨-, -, a⟩, -⟩ := p9 i (by omega)
            exact a
        · rw [if_neg e, if_neg (by omega), y17]
          exact p11 i j h1 (by omega)
    · rw [w25 i]
      by_cases e : i = v
      · rw [if_pos e, if_pos e]
      · rw [if_neg e, if_neg e, s6 i, if_neg e]
    · rcases tM with ⟨rfl, h1, h2, h3⟩ | h
      · obtain ⟨z1, z2, z3, z4⟩ := m3 h1
        refine Or.inl ⟨rfl, by rw [oM0]; exact h1, ?_, ?_⟩
        · have a0 : R_mrk σ1 (pm_rw σM' 22 (σM 22)) := by
            refine mrk_sheet (v := v) (p := p) (g := g) h2 hv hp (by omega) hg (by omega) (fun i hi => (u6 i hi).1) (fun u hu hne he => ?_) (fun u hu hb0 => ?_) (fun u hu => ?_) (fun u hu => ?_) s3 s4 o23 s6 s7 (by rw [show σ1 26 = σC 26 from o11]) (s1 28 (by decide) (by decide) (by decide) (by decide) (by decide) (by decide)) (s1 29 (by decide) (by decide) (by decide) (by decide) (by decide) (by decide)) ?_ ?_ ?_ ?_
            · have a := v2 u v hu hv hne (by show σC 38 u = σC 38 v; rw [he]; exact hp.symm)
              have a' : σC 38 u = -9 := a
              omega
            · obtain ⟨a1, -, -, a4, -⟩ := F u hu
              have a1' : σC 38 u = -9 ∧ σM 14 u = -1 ∨ σC 38 u = σM 14 u ∧ 0 ≤ σC 38 u ∧ σC 38 u < 4 := a1
              have a4' : σC 38 u = -9 → σC 40 u = 0 := a4
              omega
            · obtain ⟨a1, -⟩ := F u hu
              have a1' : σC 38 u = -9 ∧ σM 14 u = -1 ∨ σC 38 u = σM 14 u ∧ 0 ≤ σC 38 u ∧ σC 38 u < 4 := a1
              omega
            · obtain ⟨-, -, ⟨-, -, a5⟩, -⟩ := F u hu
              have a5' : σC 40 u < 60 := a5
              omega
            · rw [rw_n (by decide)]; exact z1
            · rw [rw_n (by decide)]; exact z2
            · rw [rw_n (by decide)]; exact z3
            · exact rw_e rfl
          have b42 : ∀ i, i < 36 → 0 ≤ σ1 42 i ∧ σ1 42 i ≤ 99 := by
            intro i hi
            have e := s7 i
            have e' : σ1 42 i = if g = 0 ∧ 12 * v ≤ i ∧ i < 12 * v + 12 then σC 24 (12 * p + (i - 12 * v)) else σC 42 i := e
            rw [e', if_neg (by omega)]
            exact h3 i hi
          refine mrk_post (v := v) (p := p) (P := P) a0 hv (by show σ1 38 v = p; rw [show σ1 38 = σC 38 from o23]; exact hp) (by omega) r25 (fun i hi => (mb i hi).1) (by show σ1 26 8 = P; rw [show σ1 26 = σC 26 from o11]; exact hP) b42 x9 x10 (by rw [show σ2 38 = σC 38 from x23, show σ1 38 = σC 38 from o23]) x27 w25 w2 w13 w14 ?_ ?_ ?_ ?_
          · exact (rw_n (by decide)).symm
          · exact (rw_n (by decide)).symm
          · exact (rw_n (by decide)).symm
          · intro i
            rw [z4 i, rw_n (by decide), rw_e rfl]
            by_cases q : 360 * P ≤ i ∧ i < 360 * P + 360
            · rw [if_pos ⟨cg, q⟩, if_pos q]
            · rw [if_neg (fun q2 => q q2.2), if_neg q]
        · intro i hi
          have e := s7 i
          have e' : σ1 42 i = if g = 0 ∧ 12 * v ≤ i ∧ i < 12 * v + 12 then σC 24 (12 * p + (i - 12 * v)) else σC 42 i := e
          rw [show σ2 42 = σ1 42 from x27, e', if_neg (by omega)]
          exact h3 i hi
      · exact Or.inr (by rw [oM0]; exact h)
    · refine ⟨fun c h1 h2 h3 h4 h5 h6 h7 h8 h9 h10 h11 => by rw [w1 c h4 h5 h6 h7 h9, FC c h1 h2 h3 h8 h9 h11], fun c h1 h2 h3 h4 h5 => m1 c h1 h2 h3 h4 h5, fun h c hc => m2 h c hc, fm⟩
  · have r25 : σ1 (b + 25) v = (g : Int) + 1 := by rw [s6 v, if_pos rfl]
    rw [if_neg cg] at m6 m7
    refine ⟨σ1, σM', ?_, m0, ⟨N σ1 o0 rfl, M σ1 o0 o7 o8 rfl rfl, ?_, W σ1 ((g : Int) + 1) (by omega) (by omega) m6 o7 o23 o24 s6 o26 rfl, fun i hi => (mb i hi).2, ?_⟩, ?_⟩
    · rw [s0, Option.bind_some]
      simp (disch := omega) only [wr_eq, pm_gt, Int.toNat_natCast, r25, if_neg, if_false]
    · refine T_pos_cg t4 (by rw [o0]) (by rw [o7]) o11 (fun j h1 h2 => s1 _ (by omega) (by omega) (by omega) (by omega) (by omega) (by omega)) (by rw [oM0]) (by omega) (fun j h1 h2 => m9 j (by omega) (by omega) (by omega) (fun q => absurd q cg))
    · rcases tM with ⟨rfl, h1, h2, h3⟩ | h
      · obtain ⟨z1, z2, z3, z4⟩ := m3 h1
        refine Or.inl ⟨rfl, by rw [oM0]; exact h1, ?_, ?_⟩
        · refine mrk_sheet (v := v) (p := p) (g := g) h2 hv hp (by omega) hg (by omega) (fun i hi => (u6 i hi).1) (fun u hu hne he => ?_) (fun u hu hb0 => ?_) (fun u hu => ?_) (fun u hu => ?_) s3 s4 o23 s6 s7 (by rw [show σ1 26 = σC 26 from o11]) (s1 28 (by decide) (by decide) (by decide) (by decide) (by decide) (by decide)) (s1 29 (by decide) (by decide) (by decide) (by decide) (by decide) (by decide)) z1 z2 z3 ?_
          · have a := v2 u v hu hv hne (by show σC 38 u = σC 38 v; rw [he]; exact hp.symm)
            have a' : σC 38 u = -9 := a
            omega
          · obtain ⟨a1, -, -, a4, -⟩ := F u hu
            have a1' : σC 38 u = -9 ∧ σM 14 u = -1 ∨ σC 38 u = σM 14 u ∧ 0 ≤ σC 38 u ∧ σC 38 u < 4 := a1
            have a4' : σC 38 u = -9 → σC 40 u = 0 := a4
            omega
          · obtain ⟨a1, -⟩ := F u hu
            have a1' : σC 38 u = -9 ∧ σM 14 u = -1 ∨ σC 38 u = σM 14 u ∧ 0 ≤ σC 38 u ∧ σC 38 u < 4 := a1
            omega
          · obtain ⟨-, -, ⟨-, -, a5⟩, -⟩ := F u hu
            have a5' : σC 40 u < 60 := a5
            omega
          · funext i
            rw [z4 i, if_neg (fun q => cg q.1)]
        · intro i hi
          have e := s7 i
          have e' : σ1 42 i = if g = 0 ∧ 12 * v ≤ i ∧ i < 12 * v + 12 then σC 24 (12 * p + (i - 12 * v)) else σC 42 i := e
          rw [e']
          split
          · exact u5 _ (by omega)
          · exact h3 i hi
      · exact Or.inr (by rw [oM0]; exact h)
    · exact ⟨fun c h1 h2 h3 h4 h5 h6 h7 h8 h9 h10 h11 => FC c h1 h2 h3 h8 h9 h11, fun c h1 h2 h3 h4 h5 => m1 c h1 h2 h3 h4 h5, fun h c hc => m2 h c hc, fm⟩
end VS
