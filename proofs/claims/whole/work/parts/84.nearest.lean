/-! ===== nearest ===== -/
/-- b is the first of the least of what is in S -/
def i_min (S : Nat → Prop) (v : Nat → Int) (b : Nat) (N : Int) : Prop := S b ∧ N = v b ∧ ∀ j, S j → N ≤ v j ∧ (j < b → N < v j)
theorem i_min_u {S : Nat → Prop} {v : Nat → Int} {b b' : Nat} {N N' : Int} (h : i_min S v b N) (h' : i_min S v b' N') : b = b' ∧ N = N' := by
  obtain ⟨a1, a2, a3⟩ := h
  obtain ⟨c1, c2, c3⟩ := h'
  have x := a3 b' c1
  have y := c3 b a1
  rcases Nat.lt_trichotomy b b' with q | q | q
  · have := y.2 q; omega
  · subst q; exact ⟨rfl, by omega⟩
  · have := x.2 q; omega
def nn (σ : pm_M) (p g : Nat) : Int := sm (dd σ p g) 6
section NS
variable {σC σM : pm_M} {p g i : Nat}
theorem nn_b (hol : R_old σC σM) (hmr : R_mrk σC σM) (hp : (p : Int) < σC 26 8) (hi : i < 60) : 0 ≤ nn σC p (gi σC p i) ∧ nn σC p (gi σC p i) ≤ 594 := by
  have a := fun w (hw : w < 6) => dd_b hol hmr hp hi hw
  have e : nn σC p (gi σC p i) = 0 + dd σC p (gi σC p i) 0 + dd σC p (gi σC p i) 1 + dd σC p (gi σC p i) 2 + dd σC p (gi σC p i) 3 + dd σC p (gi σC p i) 4 + dd σC p (gi σC p i) 5 := rfl
  have a0 := a 0 (by decide)
  have a1 := a 1 (by decide)
  have a2 := a 2 (by decide)
  have a3 := a 3 (by decide)
  have a4 := a 4 (by decide)
  have a5 := a 5 (by decide)
  omega
set_option maxHeartbeats 4000000 in
theorem e_nn (hol : R_old σC σM) (hp : p < 80) (hg : g < 4) : fX4_nearnessOf p g σC = some (nn σC p g) := by
  unfold fX4_nearnessOf
  obtain ⟨y, e1, hQ⟩ := pm_it_ok (f := fun a : Int × Int => bdX4_nearnessOf_5 p g σC a.1 a.2)
    (fun a => ∃ z : Nat, a.2 = z ∧ z ≤ 6 ∧ a.1 = sm (dd σC p g) z) (fun y => y.1 = nn σC p g) (fun a => 6 - a.2.toNat) (by
      rintro ⟨k, a⟩ ⟨z, hz, hle, hk⟩
      dsimp only at hz hk ⊢
      subst hz hk
      by_cases c : z = 6
      · subst c
        refine Or.inl ⟨(sm (dd σC p g) 6, ((6 : Nat) : Int)), ?_, rfl⟩
        unfold bdX4_nearnessOf_5
        simp (disch := omega) only [wr_eq, if_pos, if_true]
      · refine Or.inr ⟨(sm (dd σC p g) z + dd σC p g z, (z : Int) + 1), ?_, ⟨z + 1, by simp, by omega, rfl⟩, by simp; omega⟩
        unfold bdX4_nearnessOf_5
        rw [e_dif hol hp hg (show z < 6 by omega)]
        simp (disch := omega) only [wr_eq, if_neg, if_false, Option.bind_some]) pm_fuel (0, 0) ⟨0, rfl, by omega, rfl⟩ (pm_fl (by decide))
  rw [e1, Option.bind_some, hQ]
set_option maxHeartbeats 4000000 in
theorem e_nnM {y1 y2 y3 : Int} (hol : R_old σC σM) (hmr : R_mrk σC σM) (hp : (p : Int) < σC 26 8) (h8 : σC 26 8 ≤ 80) (hi : i < 60) : ∃ z, pm_it (fun a : Int × Int => bdX12_nearest_44 y1 y2 y3 ((60 * p + i : Nat) : Int) σM a.1 a.2) pm_fuel (0, 0) = some (nn σC p (gi σC p i), z) := by
  obtain ⟨y, e1, hQ⟩ := pm_it_ok (f := fun a : Int × Int => bdX12_nearest_44 y1 y2 y3 ((60 * p + i : Nat) : Int) σM a.1 a.2)
    (fun a => ∃ z : Nat, a.2 = z ∧ z ≤ 6 ∧ a.1 = sm (dd σC p (gi σC p i)) z) (fun y => y.1 = nn σC p (gi σC p i)) (fun a => 6 - a.2.toNat) (by
      rintro ⟨k, a⟩ ⟨z, hz, hle, hk⟩
      dsimp only at hz hk ⊢
      subst hz hk
      by_cases c : z = 6
      · subst c
        refine Or.inl ⟨(sm (dd σC p (gi σC p i)) 6, ((6 : Nat) : Int)), ?_, rfl⟩
        unfold bdX12_nearest_44
        simp (disch := omega) only [wr_eq, if_pos, if_true]
      · refine Or.inr ⟨(sm (dd σC p (gi σC p i)) z + dd σC p (gi σC p i) z, (z : Int) + 1), ?_, ⟨z + 1, by simp, by omega, rfl⟩, by simp; omega⟩
        unfold bdX12_nearest_44
        rw [e_far hol hmr hp h8 hi (show z < 6 by omega)]
        simp (disch := omega) only [wr_eq, if_neg, if_false, Option.bind_some]) pm_fuel (0, 0) ⟨0, rfl, by omega, rfl⟩ (pm_fl (by decide))
  obtain ⟨y1, y2⟩ := y
  dsimp only at hQ
  subst hQ
  exact ⟨y2, e1⟩
/-- the sheet's nearness by its number -/
def vs (σ : pm_M) (s : Nat) : Int := nn σ (s / 60) (gi σ (s / 60) (s % 60))
theorem vs_at {σ : pm_M} {p i : Nat} (hi : i < 60) : vs σ (60 * p + i) = nn σ p (gi σ p i) := by
  unfold vs
  rw [show (60 * p + i) / 60 = p by omega, show (60 * p + i) % 60 = i by omega]
/-- the first sheet of a group -/
def gf (e g : Nat) : Nat := if g < 2 then g else 2 * e + g - 2
set_option maxHeartbeats 8000000 in
/-- one post, by its groups: the class -/
theorem n_post {σ0 σ : pm_M} {N P e : Nat} (hol : R_old σ0 σM) (hmr : R_mrk σ0 σM) (hN : σ0 26 8 = N) (hN8 : N ≤ 80) (hP : P < N) (he : σ0 29 P = e) (hs : ∀ c, c ≠ 89 → σ c = σ0 c)
    (h : (P = 0 ∧ σ 89 4 = 1000) ∨ (0 < P ∧ ∃ b q : Nat, σ 89 2 = q ∧ σ 89 3 = ((b - 60 * q : Nat) : Int) ∧ 60 * q ≤ b ∧ b < 60 * q + 60 ∧ i_min (fun j => j < 60 * P) (vs σ0) b (σ 89 4))) :
    ∃ (z : Int) (σ' : pm_M), pm_it (fun a : Int × pm_M => bdX4_findNearest_22 P a.1 a.2) pm_fuel (0, σ) = some (z, σ') ∧ (∀ c, c ≠ 89 → σ' c = σ0 c) ∧ ∃ b q : Nat, σ' 89 2 = q ∧ σ' 89 3 = ((b - 60 * q : Nat) : Int) ∧ 60 * q ≤ b ∧ b < 60 * q + 60 ∧ i_min (fun j => j < 60 * (P + 1)) (vs σ0) b (σ' 89 4) := by
  obtain ⟨-, e1, e2⟩ := e_gs (g := 0) hmr (p := P) (by omega) (by omega) (by decide)
  have e30 : e ≤ 30 := by omega
  have gie : ∀ i, gi σ0 P i = if i / 2 < e then i % 2 else i % 2 + 2 := by
    intro i
    unfold gi
    rw [he]
    by_cases q : i / 2 < e
    · rw [if_pos q, if_pos (by omega)]
    · rw [if_neg q, if_neg (by omega)]
  obtain ⟨y, k1, hQ⟩ := pm_it_ok (f := fun a : Int × pm_M => bdX4_findNearest_22 P a.1 a.2)
    (fun a => ∃ z : Nat, a.1 = z ∧ z ≤ 4 ∧ (∀ c, c ≠ 89 → a.2 c = σ0 c) ∧ ((P = 0 ∧ a.2 89 4 = 1000 ∧ ∀ i, i < 60 → z ≤ gi σ0 P i) ∨ ∃ b q : Nat, a.2 89 2 = q ∧ a.2 89 3 = ((b - 60 * q : Nat) : Int) ∧ 60 * q ≤ b ∧ b < 60 * q + 60 ∧ (b < 60 * P ∨ ∃ g, g < z ∧ b = 60 * P + gf e g ∧ (g < 2 → 0 < e) ∧ (2 ≤ g → e < 30)) ∧ i_min (fun j => j < 60 * P ∨ ∃ i, i < 60 ∧ j = 60 * P + i ∧ gi σ0 P i < z) (vs σ0) b (a.2 89 4)))
    (fun y => (∀ c, c ≠ 89 → y.2 c = σ0 c) ∧ ∃ b q : Nat, y.2 89 2 = q ∧ y.2 89 3 = ((b - 60 * q : Nat) : Int) ∧ 60 * q ≤ b ∧ b < 60 * q + 60 ∧ i_min (fun j => j < 60 * (P + 1)) (vs σ0) b (y.2 89 4)) (fun a => 4 - a.1.toNat) (by
      rintro ⟨z0, ρ⟩ ⟨z, hz, hle, h1, h2⟩
      dsimp only at hz h1 h2 ⊢
      subst hz
      by_cases c : z = 4
      · subst c
        rcases h2 with ⟨h2, h3, h4⟩ | ⟨b, q, b1, b2, b3, b4, b5, b6⟩
        · have := h4 0 (by decide)
          have := gi_b (σC := σ0) (p := P) (i := 0)
          omega
        · refine Or.inl ⟨(((4 : Nat) : Int), ρ), ?_, h1, b, q, b1, b2, b3, b4, ?_, b6.2.1, fun j hj => b6.2.2 j ?_⟩
          · unfold bdX4_findNearest_22
            simp (disch := omega) only [wr_eq, if_pos, if_true]
          · have := b6.1
            dsimp only at this ⊢
            rcases this with q | ⟨i, q1, q2, -⟩ <;> omega
          · dsimp only at hj ⊢
            by_cases q : j < 60 * P
            · exact Or.inl q
            · exact Or.inr ⟨j - 60 * P, by omega, by omega, gi_b⟩
      · have r26 : ρ 26 = σ0 26 := h1 26 (by decide)
        have r29 : ρ 29 = σ0 29 := h1 29 (by decide)
        have r28 : ρ 28 = σ0 28 := h1 28 (by decide)
        have r90 : ρ 90 = σ0 90 := h1 90 (by decide)
        have gs : fX2_groupSheets 15 P z ρ = some (if z < 2 then (e : Int) else 30 - e) := by
          obtain ⟨x, -⟩ := e_gs (g := z) hmr (p := P) (by omega) (by omega) (by omega)
          unfold fX2_groupSheets at x ⊢
          simp only [Nat.reduceAdd] at x ⊢
          rw [r29, x, he]
        have dde : dd ρ = dd σ0 := by
          funext a b c
          unfold dd
          rw [r28, r90]
        have nne : fX4_nearnessOf P z ρ = some (nn σ0 P z) := by
          have x := e_nn (σC := ρ) (σM := σM) (p := P) (g := z) (by unfold R_old at hol ⊢; rw [r90]; exact hol) (by omega) (by omega)
          unfold nn at x ⊢
          rw [dde] at x
          exact x
        by_cases ce : (z < 2 ∧ e = 0) ∨ (2 ≤ z ∧ e = 30)
        · -- the group is empty
          have gz : (if z < 2 then (e : Int) else 30 - e) = 0 := by split <;> omega
          rw [gz] at gs
          have noi : ∀ i, i < 60 → gi σ0 P i ≠ z := by
            intro i hi
            rw [gie i]
            split <;> omega
          refine Or.inr ⟨((z : Int) + 1, ρ), ?_, ⟨z + 1, by simp, by omega, h1, ?_⟩, by simp; omega⟩
          · unfold bdX4_findNearest_22
            rw [gs]
            simp (disch := omega) only [wr_eq, if_neg, if_pos, if_true, if_false, Option.bind_some]
          · rcases h2 with ⟨h2, h3, h4⟩ | ⟨b, q, b1, b2, b3, b4, b5, b6⟩
            · exact Or.inl ⟨h2, h3, fun i hi => by have := h4 i hi; have := noi i hi; omega⟩
            · refine Or.inr ⟨b, q, b1, b2, b3, b4, ?_, ?_, b6.2.1, fun j hj => b6.2.2 j ?_⟩
              · rcases b5 with b5 | ⟨g, g1, g2⟩
                · exact Or.inl b5
                · exact Or.inr ⟨g, by omega, g2⟩
              · rcases b6.1 with b7 | ⟨i, g1, g2, g3⟩
                · exact Or.inl b7
                · exact Or.inr ⟨i, g1, g2, by omega⟩
              · rcases hj with b7 | ⟨i, g1, g2, g3⟩
                · exact Or.inl b7
                · exact Or.inr ⟨i, g1, g2, by have := noi i g1; omega⟩
        · have gp : 0 < (if z < 2 then (e : Int) else 30 - e) ∧ (if z < 2 then (e : Int) else 30 - e) ≤ 30 := by split <;> omega
          generalize (if z < 2 then (e : Int) else 30 - e) = G at gs gp
          have gfb : gf e z < 60 := by unfold gf; split <;> omega
          have gfi : gi σ0 P (gf e z) = z := by
            rw [gie]
            unfold gf
            by_cases q : z < 2
            · rw [if_pos q, if_pos (by omega)]; omega
            · rw [if_neg q, if_neg (by omega)]; omega
          have mem : ∀ i, i < 60 → gi σ0 P i = z → gf e z ≤ i ∧ vs σ0 (60 * P + i) = nn σ0 P z := by
            intro i hi hg
            refine ⟨?_, by rw [vs_at hi, hg]⟩
            rw [gie i] at hg
            unfold gf
            by_cases q : i / 2 < e
            · rw [if_pos q] at hg
              rw [if_pos (by omega)]; omega
            · rw [if_neg q] at hg
              rw [if_neg (by omega)]; omega
          have vb := nn_b hol hmr (p := P) (i := gf e z) (by omega) gfb
          rw [gfi] at vb
          have eF : fX2_groupFirst 15 P z (pm_up (pm_up ρ 89 4 (nn σ0 P z)) 89 2 P) = some ((gf e z : Nat) : Int) := by
            unfold fX2_groupFirst gf
            have r : (pm_up (pm_up ρ 89 4 (nn σ0 P z)) 89 2 P) (15 + 14) P = e := by
              rw [pu_ne (by omega), pu_ne (by omega)]
              show ρ 29 P = e
              rw [r29]; exact he
            by_cases q : z < 2
            · simp (disch := omega) only [wr_eq, if_neg, if_pos, if_true, if_false]
            · simp (disch := omega) only [wr_eq, if_neg, if_pos, if_true, if_false, pm_gt, Int.toNat_natCast, r]
              congr 1
              omega
          have ncmp : ρ 89 4 ≤ 1000 ∧ 0 ≤ ρ 89 4 := by
            rcases h2 with ⟨h2, h3, h4⟩ | ⟨b, q, b1, b2, b3, b4, b5, b6⟩
            · omega
            · have x := b6.2.1
              have y : ∃ p i : Nat, (p : Int) < σ0 26 8 ∧ i < 60 ∧ b = 60 * p + i := by
                rcases b6.1 with b7 | ⟨i, g1, g2, g3⟩
                · exact ⟨b / 60, b % 60, by omega, by omega, by omega⟩
                · exact ⟨P, i, by omega, g1, g2⟩
              obtain ⟨p, i, y1, y2, y3⟩ := y
              have w := nn_b hol hmr y1 y2
              rw [y3, vs_at y2] at x
              omega
          by_cases cn : nn σ0 P z < ρ 89 4
          · refine Or.inr ⟨((z : Int) + 1, pm_up (pm_up (pm_up ρ 89 4 (nn σ0 P z)) 89 2 P) 89 3 ((gf e z : Nat) : Int)), ?_, ⟨z + 1, by simp, by omega, fun c hc => ?_, Or.inr ⟨60 * P + gf e z, P, ?_, ?_, by omega, by omega, Or.inr ⟨z, by omega, rfl, by omega, by omega⟩, ?_⟩⟩, by simp; omega⟩
            · unfold bdX4_findNearest_22 fX4_compare
              rw [gs, nne]
              simp (disch := omega) only [wr_eq, if_neg, if_pos, if_true, if_false, Option.bind_some, eF]
            · simp (disch := omega) only [pu_o]
              exact h1 c hc
            · simp (disch := omega) only [pu_ne, pu_eq]
            · simp (disch := omega) only [pu_ne, pu_eq]
              omega
            · have e4 : (pm_up (pm_up (pm_up ρ 89 4 (nn σ0 P z)) 89 2 P) 89 3 ((gf e z : Nat) : Int)) 89 4 = nn σ0 P z := by
                simp (disch := omega) only [pu_ne, pu_eq]
              dsimp only
              rw [e4]
              refine ⟨Or.inr ⟨gf e z, gfb, rfl, by omega⟩, by rw [vs_at gfb, gfi], fun j hj => ?_⟩
              have old : (j < 60 * P ∨ ∃ i, i < 60 ∧ j = 60 * P + i ∧ gi σ0 P i < z) → nn σ0 P z < vs σ0 j := by
                intro hj
                rcases h2 with ⟨h2, h3, h4⟩ | ⟨b, q, b1, b2, b3, b4, b5, b6⟩
                · rcases hj with hj | ⟨i, i1, i2, i3⟩
                  · omega
                  · have := h4 i i1; omega
                · have := (b6.2.2 j hj).1; omega
              rcases hj with hj | ⟨i, i1, i2, i3⟩
              · have := old (Or.inl hj)
                exact ⟨by omega, fun _ => this⟩
              · by_cases q : gi σ0 P i = z
                · obtain ⟨m1, m2⟩ := mem i i1 q
                  rw [i2, m2]
                  exact ⟨Int.le_refl _, fun h => by omega⟩
                · have := old (Or.inr ⟨i, i1, i2, by omega⟩)
                  exact ⟨by omega, fun _ => this⟩
          · refine Or.inr ⟨((z : Int) + 1, ρ), ?_, ⟨z + 1, by simp, by omega, h1, ?_⟩, by simp; omega⟩
            · unfold bdX4_findNearest_22 fX4_compare
              rw [gs, nne]
              simp (disch := omega) only [wr_eq, if_neg, if_pos, if_true, if_false, Option.bind_some]
            · rcases h2 with ⟨h2, h3, h4⟩ | ⟨b, q, b1, b2, b3, b4, b5, b6⟩
              · omega
              · refine Or.inr ⟨b, q, b1, b2, b3, b4, ?_, ?_, b6.2.1, fun j hj => ?_⟩
                · rcases b5 with b5 | ⟨g, g1, g2⟩
                  · exact Or.inl b5
                  · exact Or.inr ⟨g, by omega, g2⟩
                · rcases b6.1 with b7 | ⟨i, g1, g2, g3⟩
                  · exact Or.inl b7
                  · exact Or.inr ⟨i, g1, g2, by omega⟩
                · rcases hj with hj | ⟨i, i1, i2, i3⟩
                  · exact b6.2.2 j (Or.inl hj)
                  · by_cases q : gi σ0 P i = z
                    · obtain ⟨m1, m2⟩ := mem i i1 q
                      dsimp only
                      rw [i2, m2]
                      refine ⟨by omega, fun h => ?_⟩
                      exfalso
                      rcases b5 with b5 | ⟨g, g1, g2, g3, g4⟩
                      · omega
                      · have : gf e g < gf e z := by
                          unfold gf
                          split <;> split <;> omega
                        omega
                    · exact b6.2.2 j (Or.inr ⟨i, i1, i2, by omega⟩)) pm_fuel (0, σ)
    ⟨0, rfl, by omega, hs, by
      rcases h with ⟨h1, h2⟩ | ⟨h0, b, q, b1, b2, b3, b4, b5⟩
      · exact Or.inl ⟨h1, h2, fun i _ => Nat.zero_le _⟩
      · refine Or.inr ⟨b, q, b1, b2, b3, b4, Or.inl b5.1, Or.inl b5.1, b5.2.1, fun j hj => b5.2.2 j ?_⟩
        rcases hj with hj | ⟨i, i1, i2, i3⟩
        · exact hj
        · omega⟩ (pm_fl (show 4 - Int.toNat 0 < 100000 by decide))
  exact ⟨y.1, y.2, k1, hQ.1, hQ.2⟩
end NS
