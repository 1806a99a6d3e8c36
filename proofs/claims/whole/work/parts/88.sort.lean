/-! ===== best: the open orders by DUE ===== -/
section SO
variable {σC σM : pm_M} {T : Nat}
/-- how many are open -/
theorem e_open (hor : R_ord σC σM) (hT : σC 81 6 = T) : fX5_open σC = some (c_n (σC 87) (-9) T) := by
  obtain ⟨o1, o2, o3, o4⟩ := hor
  unfold fX5_open
  obtain ⟨y, e1, hQ⟩ := pm_it_ok (f := fun a : Int × Int => bdX5_open_4 σC a.1 a.2)
    (fun a => ∃ z : Nat, a.2 = z ∧ z ≤ T ∧ a.1 = c_n (σC 87) (-9) z) (fun y => y.1 = c_n (σC 87) (-9) T) (fun a => T - a.2.toNat) (by
      rintro ⟨k, z0⟩ ⟨z, hz, hle, hk⟩
      dsimp only at hz hk ⊢
      subst hz hk
      by_cases c : z = T
      · subst c
        refine Or.inl ⟨(c_n (σC 87) (-9) z, (z : Int)), ?_, rfl⟩
        unfold bdX5_open_4
        simp (disch := omega) only [hT, wr_eq, if_pos, if_true]
      · obtain ⟨-, -, -, -, -, q1, q2⟩ := o4 z (by omega)
        by_cases c1 : σC 87 z = -9
        · refine Or.inr ⟨(c_n (σC 87) (-9) z + 1, (z : Int) + 1), ?_, ⟨z + 1, by simp, by omega, by dsimp only; rw [c_n_s, if_pos c1]⟩, by simp; omega⟩
          unfold bdX5_open_4 fX5_isOpen
          simp (disch := omega) only [hT, wr_eq, if_pos, if_neg, if_true, if_false, pm_gt, Int.toNat_natCast, Option.bind_some]
        · refine Or.inr ⟨(c_n (σC 87) (-9) z, (z : Int) + 1), ?_, ⟨z + 1, by simp, by omega, by dsimp only; rw [c_n_s, if_neg c1]; omega⟩, by simp; omega⟩
          unfold bdX5_open_4 fX5_isOpen
          simp (disch := omega) only [hT, wr_eq, if_pos, if_neg, if_true, if_false, pm_gt, Int.toNat_natCast, Option.bind_some]) pm_fuel (0, 0) ⟨0, rfl, by omega, rfl⟩ (pm_fl (by show T - Int.toNat 0 < 100000; omega))
  rw [e1, Option.bind_some, hQ]
set_option maxHeartbeats 8000000 in
/-- one order finds its place -/
theorem e_place {y1 : Int} {σ τ : pm_M} {k o : Nat} {R : Nat → Nat} (hor : R_ord σC σM) (hT : σC 81 6 = T) (hs : ∀ c, c ≠ 88 → σ c = σC c) (hm : ∀ c, c ≠ 27 → τ c = σM c) (ho : o < T) (hk : k ≤ o) (h1 : ∀ i, i < k → σ 88 i = R i ∧ τ 27 i = R i) (h2 : ∀ i, i < k → R i < o) : ∃ (a : Nat) (σ' τ' : pm_M), pm_it (fun x : Int × pm_M => bdX5_sortByDue_25 k o x.1 x.2) pm_fuel (k, σ) = some ((a : Int), σ') ∧ pm_it (fun x : Int × pm_M => bdX12_bests_27 y1 k o x.1 x.2) pm_fuel (k, τ) = some ((a : Int), τ') ∧ a ≤ k ∧ (∀ c, c ≠ 88 → σ' c = σC c) ∧ (∀ c, c ≠ 27 → τ' c = σM c) ∧ (∀ i, i < a → σ' 88 i = R i ∧ τ' 27 i = R i) ∧ (∀ i, a < i → i ≤ k → σ' 88 i = R (i - 1) ∧ τ' 27 i = R (i - 1)) := by
  obtain ⟨o1, o2, o3, o4⟩ := hor
  obtain ⟨y, y', e1, e2, hQ⟩ := pm_it_2 (f := fun x : Int × pm_M => bdX5_sortByDue_25 k o x.1 x.2) (g := fun x : Int × pm_M => bdX12_bests_27 y1 k o x.1 x.2)
    (fun m x x' => ∃ a : Nat, x.1 = a ∧ x'.1 = a ∧ a ≤ k ∧ m = a ∧ (∀ c, c ≠ 88 → x.2 c = σC c) ∧ (∀ c, c ≠ 27 → x'.2 c = σM c) ∧ (∀ i, i < a → x.2 88 i = R i ∧ x'.2 27 i = R i) ∧ (∀ i, a < i → i ≤ k → x.2 88 i = R (i - 1) ∧ x'.2 27 i = R (i - 1)))
    (fun x x' => ∃ a : Nat, x.1 = a ∧ x'.1 = a ∧ a ≤ k ∧ (∀ c, c ≠ 88 → x.2 c = σC c) ∧ (∀ c, c ≠ 27 → x'.2 c = σM c) ∧ (∀ i, i < a → x.2 88 i = R i ∧ x'.2 27 i = R i) ∧ (∀ i, a < i → i ≤ k → x.2 88 i = R (i - 1) ∧ x'.2 27 i = R (i - 1))) (by
      rintro m ⟨a0, ρ⟩ ⟨a0', π⟩ ⟨a, ha, ha', hle, hmm, g1, g2, g3, g4⟩
      dsimp only at ha ha' g1 g2 g3 g4 ⊢
      subst ha ha'
      by_cases c : a = 0
      · subst c
        refine Or.inl ⟨(((0 : Nat) : Int), ρ), (((0 : Nat) : Int), π), ?_, ?_, 0, rfl, rfl, hle, g1, g2, g3, g4⟩
        · unfold bdX5_sortByDue_25
          simp (disch := omega) only [wr_eq, if_pos, if_true]
        · unfold bdX12_bests_27
          simp (disch := omega) only [wr_eq, if_pos, if_true]
      · obtain ⟨x, rfl⟩ : ∃ x, a = x + 1 := ⟨a - 1, by omega⟩
        have ex : ((x + 1 : Nat) : Int) - 1 = x := by omega
        have ex2 : ((x + 1 : Nat) : Int) + (-1) = x := by omega
        obtain ⟨r1, r2⟩ := g3 x (by omega)
        have rx := h2 x (by omega)
        obtain ⟨-, -, -, ⟨d1, d1a, d1b⟩, -⟩ := o4 (R x) (by omega)
        obtain ⟨-, -, -, ⟨d2, d2a, d2b⟩, -⟩ := o4 o (by omega)
        have s85 : ρ 85 = σC 85 := g1 85 (by decide)
        have m19 : π 19 = σM 19 := g2 19 (by decide)
        by_cases c1 : σC 85 (R x) ≤ σC 85 o
        · refine Or.inl ⟨(((x + 1 : Nat) : Int), ρ), (((x + 1 : Nat) : Int), π), ?_, ?_, x + 1, rfl, rfl, hle, g1, g2, g3, g4⟩
          · unfold bdX5_sortByDue_25
            rw [ex]
            simp (disch := omega) only [wr_eq, if_neg, if_pos, if_true, if_false, pm_gt, Int.toNat_natCast, r1, s85]
          · unfold bdX12_bests_27
            rw [ex]
            simp (disch := omega) only [wr_eq, if_neg, if_pos, if_true, if_false, pm_gt, Int.toNat_natCast, r2, m19, ← d1, ← d2]
        · refine Or.inr ⟨((x : Int), pm_up ρ 88 (x + 1) (R x)), ((x : Int), pm_up π 27 (x + 1) (R x)), x, ?_, ?_, by omega, x, rfl, rfl, by omega, rfl, fun c hc => by dsimp only; rw [pu_o hc]; exact g1 c hc, fun c hc => by dsimp only; rw [pu_o hc]; exact g2 c hc, fun i hi => ?_, fun i hi hi2 => ?_⟩
          · unfold bdX5_sortByDue_25
            rw [ex, ex2]
            simp (disch := omega) only [wr_eq, if_neg, if_false, pm_gt, Int.toNat_natCast, r1, s85]
          · unfold bdX12_bests_27
            rw [ex, ex2]
            simp (disch := omega) only [wr_eq, if_neg, if_false, pm_gt, Int.toNat_natCast, r2, m19, ← d1, ← d2]
          · dsimp only
            rw [pu_ne (by omega), pu_ne (by omega)]
            exact g3 i (by omega)
          · dsimp only
            by_cases e : i = x + 1
            · rw [pu_eq ⟨rfl, e⟩, pu_eq ⟨rfl, e⟩, e]
              exact ⟨rfl, rfl⟩
            · rw [pu_ne (Or.inr e), pu_ne (Or.inr e)]
              exact g4 i (by omega) hi2) pm_fuel k ((k : Int), σ) ((k : Int), τ)
    ⟨k, rfl, rfl, Nat.le_refl _, rfl, hs, hm, h1, fun i h1 h2 => by omega⟩ (pm_fl (by omega))
  obtain ⟨a, q1, q2, q3, q4, q5, q6, q7⟩ := hQ
  obtain ⟨y1, y2⟩ := y
  obtain ⟨x1, x2⟩ := y'
  dsimp only at q1 q2 q4 q5 q6 q7
  subst q1 q2
  exact ⟨a, y2, x2, e1, e2, q3, q4, q5, q6, q7⟩
set_option maxHeartbeats 8000000 in
theorem e_sort {x1 : Int} (hor : R_ord σC σM) (hT : σC 81 6 = T) : ∃ (k : Nat) (z : Int) (σ τ : pm_M) (R : Nat → Nat), fX5_sortByDue σC = some ((k : Int), σ) ∧ pm_it (fun a : Int × Int × pm_M => bdX12_bests_4 x1 a.1 a.2.1 a.2.2) pm_fuel (0, 0, σM) = some ((k : Int), z, τ) ∧ (k : Int) = c_n (σC 87) (-9) T ∧ k ≤ T ∧ (∀ c, c ≠ 88 → σ c = σC c) ∧ (∀ c, c ≠ 27 → τ c = σM c) ∧ (∀ i, i < k → σ 88 i = R i ∧ τ 27 i = R i) ∧ (∀ i, i < k → R i < T) ∧ (∀ i j, i < j → j < k → R i ≠ R j) := by
  obtain ⟨o1, o2, o3, o4⟩ := id hor
  unfold fX5_sortByDue
  obtain ⟨y, y', e1, e2, hQ⟩ := pm_it_2 (f := fun a : Int × Int × pm_M => bdX5_sortByDue_4 a.1 a.2.1 a.2.2) (g := fun a : Int × Int × pm_M => bdX12_bests_4 x1 a.1 a.2.1 a.2.2)
    (fun m a a' => ∃ (k o : Nat) (R : Nat → Nat), a.1 = k ∧ a'.1 = k ∧ a.2.1 = o ∧ a'.2.1 = o ∧ o ≤ T ∧ m = T - o ∧ (k : Int) = c_n (σC 87) (-9) o ∧ k ≤ o ∧ (∀ c, c ≠ 88 → a.2.2 c = σC c) ∧ (∀ c, c ≠ 27 → a'.2.2 c = σM c) ∧ (∀ i, i < k → a.2.2 88 i = R i ∧ a'.2.2 27 i = R i) ∧ (∀ i, i < k → R i < o) ∧ (∀ i j, i < j → j < k → R i ≠ R j))
    (fun a a' => ∃ (k : Nat) (R : Nat → Nat), a.1 = k ∧ a'.1 = k ∧ (k : Int) = c_n (σC 87) (-9) T ∧ k ≤ T ∧ (∀ c, c ≠ 88 → a.2.2 c = σC c) ∧ (∀ c, c ≠ 27 → a'.2.2 c = σM c) ∧ (∀ i, i < k → a.2.2 88 i = R i ∧ a'.2.2 27 i = R i) ∧ (∀ i, i < k → R i < T) ∧ (∀ i j, i < j → j < k → R i ≠ R j)) (by
      rintro m ⟨k0, z0, ρ⟩ ⟨k0', z0', π⟩ ⟨k, o, R, hk, hk', ho, ho', hle, hm, hc, hko, g1, g2, g3, g4, g5⟩
      dsimp only at hk hk' ho ho' g1 g2 g3 ⊢
      subst hk hk' ho ho'
      have s6 : ρ 81 6 = T := by rw [g1 81 (by decide)]; exact hT
      have m17 : π 0 17 = T := by rw [g2 0 (by decide), ← o1]; exact hT
      have s87 : ρ 87 = σC 87 := g1 87 (by decide)
      have m21 : π 21 = σM 21 := g2 21 (by decide)
      by_cases c : o = T
      · subst c
        refine Or.inl ⟨((k : Int), (o : Int), ρ), ((k : Int), (o : Int), π), ?_, ?_, k, R, rfl, rfl, hc, hko, g1, g2, g3, g4, g5⟩
        · unfold bdX5_sortByDue_4
          simp (disch := omega) only [s6, wr_eq, if_pos, if_true]
        · unfold bdX12_bests_4
          simp (disch := omega) only [m17, wr_eq, if_pos, if_true]
      · obtain ⟨-, -, -, -, -, q1, q2⟩ := o4 o (by omega)
        by_cases c1 : σC 87 o = -9
        · obtain ⟨a, ρ', π', f1, f2, f3, f4, f5, f6, f7⟩ := e_place (y1 := x1) (k := k) (o := o) (R := R) hor hT g1 g2 (by omega) hko g3 g4
          have q1' : σM 21 o = -9 := by omega
          refine Or.inr ⟨((k : Int) + 1, (o : Int) + 1, pm_up ρ' 88 a o), ((k : Int) + 1, (o : Int) + 1, pm_up π' 27 a o), m - 1, ?_, ?_, by omega, k + 1, o + 1, (fun i => if i < a then R i else if i = a then o else R (i - 1)), by simp, by simp, by simp, by simp, by omega, by omega, ?_, by omega, ?_, ?_, ?_, ?_, ?_⟩
          · unfold bdX5_sortByDue_4 fX5_isOpen
            simp (disch := omega) only [s6, s87, wr_eq, if_pos, if_neg, if_true, if_false, pm_gt, Int.toNat_natCast, Option.bind_some, f1]
          · unfold bdX12_bests_4
            simp (disch := omega) only [m17, m21, wr_eq, if_pos, if_neg, if_true, if_false, pm_gt, Int.toNat_natCast, Option.bind_some, f2]
          · rw [c_n_s, if_pos c1]; omega
          · intro c hc
            dsimp only
            rw [pu_o hc]; exact f4 c hc
          · intro c hc
            dsimp only
            rw [pu_o hc]; exact f5 c hc
          · intro i hi
            dsimp only
            by_cases e : i = a
            · rw [pu_eq ⟨rfl, e⟩, pu_eq ⟨rfl, e⟩, if_neg (by omega), if_pos e]
              exact ⟨rfl, rfl⟩
            · rw [pu_ne (Or.inr e), pu_ne (Or.inr e), if_neg e]
              by_cases e2 : i < a
              · rw [if_pos e2]; exact f6 i e2
              · rw [if_neg e2]; exact f7 i (by omega) (by omega)
          · intro i hi
            dsimp only
            by_cases e2 : i < a
            · rw [if_pos e2]
              have := g4 i (by omega); omega
            · rw [if_neg e2]
              by_cases e : i = a
              · rw [if_pos e]; omega
              · rw [if_neg e]
                have := g4 (i - 1) (by omega); omega
          · intro i j hij hj
            dsimp only
            by_cases e1 : i < a
            · rw [if_pos e1]
              by_cases e2 : j < a
              · rw [if_pos e2]; exact g5 i j hij (by omega)
              · rw [if_neg e2]
                by_cases e3 : j = a
                · rw [if_pos e3]
                  have := g4 i (by omega); omega
                · rw [if_neg e3]; exact g5 i (j - 1) (by omega) (by omega)
            · rw [if_neg e1, if_neg (show ¬ j < a by omega), if_neg (show ¬ j = a by omega)]
              by_cases e3 : i = a
              · rw [if_pos e3]
                have := g4 (j - 1) (by omega); omega
              · rw [if_neg e3]; exact g5 (i - 1) (j - 1) (by omega) (by omega)
        · refine Or.inr ⟨((k : Int), (o : Int) + 1, ρ), ((k : Int), (o : Int) + 1, π), m - 1, ?_, ?_, by omega, k, o + 1, R, rfl, rfl, by simp, by simp, by omega, by omega, ?_, by omega, g1, g2, g3, fun i hi => by have := g4 i hi; omega, g5⟩
          · unfold bdX5_sortByDue_4 fX5_isOpen
            simp (disch := omega) only [s6, s87, wr_eq, if_pos, if_neg, if_true, if_false, pm_gt, Int.toNat_natCast, Option.bind_some]
          · unfold bdX12_bests_4
            simp (disch := omega) only [m17, m21, wr_eq, if_pos, if_neg, if_true, if_false, pm_gt, Int.toNat_natCast, ← q1]
          · rw [c_n_s, if_neg c1]; omega) pm_fuel T (0, 0, σC) (0, 0, σM)
    ⟨0, 0, fun _ => 0, rfl, rfl, rfl, rfl, by omega, rfl, rfl, by omega, fun _ _ => rfl, fun _ _ => rfl, fun i hi => by omega, fun i hi => by omega, fun i j h1 h2 => by omega⟩ (pm_fl (by omega))
  obtain ⟨k, R, q1, q2, q3⟩ := hQ
  obtain ⟨y1, y2, y3⟩ := y
  obtain ⟨z1, z2, z3⟩ := y'
  dsimp only at q1 q2
  subst q1 q2
  rw [e1, Option.bind_some]
  exact ⟨k, z2, y3, z3, R, rfl, e2, q3⟩
end SO
