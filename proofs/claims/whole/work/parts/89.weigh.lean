/-! ===== best: sets weighed ===== -/
theorem mul_bd {D n : Int} (hD : -100 ≤ D ∧ D ≤ 100) (hn : 1 ≤ n ∧ n ≤ 9600) : -960000 ≤ D * n ∧ D * n ≤ 960000 := by
  have h1 : D * n ≤ 100 * n := Int.mul_le_mul_of_nonneg_right hD.2 (by omega)
  have h2 : -100 * n ≤ D * n := Int.mul_le_mul_of_nonneg_right hD.1 (by omega)
  omega
theorem mul_bp {p r : Int} (hp : 0 ≤ p ∧ p ≤ 999) (hr : 1 ≤ r ∧ r ≤ 20) : 0 ≤ p * r ∧ p * r ≤ 19980 := by
  have h1 : p * r ≤ 999 * r := Int.mul_le_mul_of_nonneg_right hp.2 (by omega)
  have h2 : 0 * r ≤ p * r := Int.mul_le_mul_of_nonneg_right hp.1 (by omega)
  omega
section WE
variable {σC σM σ τ : pm_M} {T k : Nat} {R : Nat → Nat} {n d : Int}
set_option maxHeartbeats 8000000 in
theorem w_set {y4 : Int} {ch : Int} (hor : R_ord σC σM) (hT : σC 81 6 = T) (hk8 : k ≤ 8) (hR : ∀ i, i < k → σ 88 i = R i ∧ τ 27 i = R i) (hR1 : ∀ i, i < k → R i < T) (hR2 : ∀ i j, i < j → j < k → R i ≠ R j)
    (hs : ∀ c, c ≠ 88 → c ≠ 81 → σ c = σC c) (hm : ∀ c, c ≠ 27 → c ≠ 0 → τ c = σM c) (hn : 1 ≤ n ∧ n ≤ 9600) (hd : 0 ≤ d ∧ d ≤ 100) (ht : fX12_today τ = some d) :
    ∃ y y', pm_it (fun a : Int × Int × Int × Int => bdX5_weigh_12 ch k n (d + 1) σ a.1 a.2.1 a.2.2.1 a.2.2.2) pm_fuel (0, 0, 0, 0) = some y ∧ pm_it (fun a : Int × Int × Int × Int × Int × Int => bdX12_bests_160 n k y4 ch τ a.1 a.2.1 a.2.2.1 a.2.2.2.1 a.2.2.2.2.1 a.2.2.2.2.2) pm_fuel (0, 0, 0, 0, 1, 0) = some y' ∧ (((∃ q, y = .inl q) ∧ y'.2.2.2.2.1 = 0) ∨ (∃ (r s i : Int) (x : Nat), y = .inr (r, s, (x : Int), i) ∧ x < 4096 ∧ 0 ≤ s ∧ s ≤ 159840 ∧ y'.1 = s ∧ y'.2.1 = x ∧ y'.2.2.1 = pc x ∧ y'.2.2.2.2.1 = 1)) := by
  obtain ⟨o1, o2, o3, o4⟩ := hor
  obtain ⟨y, y', e1, e2, hQ⟩ := pm_it_3 (f := fun a : Int × Int × Int × Int => bdX5_weigh_12 ch k n (d + 1) σ a.1 a.2.1 a.2.2.1 a.2.2.2) (g := fun a : Int × Int × Int × Int × Int × Int => bdX12_bests_160 n k y4 ch τ a.1 a.2.1 a.2.2.1 a.2.2.2.1 a.2.2.2.2.1 a.2.2.2.2.2)
    (fun m a a' => ∃ i i' : Nat, a.2.2.2 = i ∧ a'.2.2.2.2.2 = i' ∧ i ≤ i' ∧ i' ≤ k ∧ m = k - i' ∧ ((i = i' ∧ a'.2.2.2.2.1 = 1 ∧ a.2.1 = a'.1 ∧ 0 ≤ a.2.1 ∧ a.2.1 ≤ 19980 * i ∧ 0 ≤ a.1 ∧ a.1 ≤ 20 * i ∧ a'.2.2.2.1 = 480 * a.1 ∧ ∃ x : Nat, x < 4096 ∧ a.2.2.1 = x ∧ a'.2.1 = x ∧ a'.2.2.1 = pc x ∧ ∀ q, x.testBit q = true → ∃ j, j < i ∧ R j = q) ∨ (i < i' ∧ a'.2.2.2.2.1 = 0 ∧ ∃ y, bdX5_weigh_12 ch k n (d + 1) σ a.1 a.2.1 a.2.2.1 a.2.2.2 = some (.inl (.inl y)))))
    (fun y y' => ((∃ q, y = .inl q) ∧ y'.2.2.2.2.1 = 0) ∨ (∃ (r s i : Int) (x : Nat), y = .inr (r, s, (x : Int), i) ∧ x < 4096 ∧ 0 ≤ s ∧ s ≤ 159840 ∧ y'.1 = s ∧ y'.2.1 = x ∧ y'.2.2.1 = pc x ∧ y'.2.2.2.2.1 = 1)) (by
      rintro m ⟨r, s, x0, i0⟩ ⟨s', b', c', t', m', i0'⟩ ⟨i, i', hi, hi', h1, h2, hmm, h3⟩
      dsimp only at hi hi' h3 ⊢
      subst hi hi'
      have M84 : σ 84 = σC 84 := hs 84 (by decide) (by decide)
      have M85 : σ 85 = σC 85 := hs 85 (by decide) (by decide)
      have M86 : σ 86 = σC 86 := hs 86 (by decide) (by decide)
      have N18 : τ 18 = σM 18 := hm 18 (by decide) (by decide)
      have N19 : τ 19 = σM 19 := hm 19 (by decide) (by decide)
      have N20 : τ 20 = σM 20 := hm 20 (by decide) (by decide)
      have kb : ((k : Nat) : Int) ≤ 8 := by omega
      rcases h3 with ⟨h3, h4, h5, h6, h7, h8, h9, h10, x, h11, h12, h13, h14, h15⟩ | ⟨h3, h4, y, h5⟩
      · subst h3 h4 h5 h10 h12 h13 h14
        by_cases c : i = k
        · subst c
          refine Or.inl ⟨.inr (r, s, (x : Int), (i : Int)), (s, (x : Int), ((pc x : Nat) : Int), 480 * r, 1, (i : Int)), ?_, ?_, Or.inr ⟨r, s, (i : Int), x, rfl, h11, h6, by omega, rfl, rfl, rfl, rfl⟩⟩
          · unfold bdX5_weigh_12
            rw [if_pos (Int.le_refl _)]
          · unfold bdX12_bests_160
            rw [if_pos (Int.le_refl _)]
        · have kw : ¬ wr (k : Int) ≤ wr (i : Int) := by rw [wr_eq (by omega) (by omega), wr_eq (by omega) (by omega)]; omega
          by_cases cb : wr (pm_and (pm_shr ch (i : Int)) 1) = 0
          · refine Or.inr (Or.inl ⟨(r, s, (x : Int), (i : Int) + 1), (s, (x : Int), ((pc x : Nat) : Int), 480 * r, 1, (i : Int) + 1), m - 1, ?_, ?_, by omega, i + 1, i + 1, by simp, by simp, by omega, by omega, by omega, Or.inl ⟨rfl, rfl, rfl, h6, by dsimp only; omega, h8, by dsimp only; omega, rfl, x, h11, rfl, rfl, rfl, fun q hq => ?_⟩⟩)
            · unfold bdX5_weigh_12
              rw [if_neg kw, if_pos cb]
            · unfold bdX12_bests_160
              rw [if_neg kw, if_pos cb]
            · obtain ⟨j, j1, j2⟩ := h15 q hq
              exact ⟨j, by omega, j2⟩
          · obtain ⟨q1, q2⟩ := hR i (by omega)
            have q3 := hR1 i (by omega)
            obtain ⟨-, -, ⟨u1, u1a, u1b⟩, ⟨u2, u2a, u2b⟩, ⟨u3, u3a, u3b⟩, -⟩ := o4 (R i) (by omega)
            have db := mul_bd (D := σC 85 (R i) - d) (n := n) (by omega) hn
            have pb := mul_bp (p := σC 86 (R i)) (r := σC 84 (R i)) ⟨u3a, u3b⟩ ⟨u1a, u1b⟩
            have ed : (σC 85 (R i) + 1 - (d + 1)) * n = (σC 85 (R i) - d) * n := by
              congr 1
              omega
            have ed2 : n * (σC 85 (R i) - d) = (σC 85 (R i) - d) * n := Int.mul_comm _ _
            have wp : wr ((σC 85 (R i) - d) * n) = (σC 85 (R i) - d) * n := wr_eq (by omega) (by omega)
            have wc : wr (r + σC 84 (R i)) = r + σC 84 (R i) := wr_eq (by omega) (by omega)
            have bs : x.testBit (R i) = false := by
              cases hq : x.testBit (R i) with
              | false => rfl
              | true =>
                obtain ⟨j, j1, j2⟩ := h15 (R i) hq
                exact absurd j2 (hR2 j i j1 (by omega))
            obtain ⟨b1, b2, b3⟩ := or_at h11 (by omega) bs
            have cmp : pm_cmp (480 * r + 480 * σC 84 (R i)) ((σC 85 (R i) - d) * n) = (if (σC 85 (R i) - d) * n < 480 * r + 480 * σC 84 (R i) then 1 else if 480 * r + 480 * σC 84 (R i) = (σC 85 (R i) - d) * n then 0 else -1) := by
              unfold pm_cmp
              rw [wl_eq (by omega) (by omega), wl_eq (by omega) (by omega)]
            by_cases cc : (r + σC 84 (R i)) * 480 ≤ (σC 85 (R i) - d) * n
            · have nb : ¬ (σC 85 (R i) - d) * n < 480 * r + 480 * σC 84 (R i) := by omega
              rw [if_neg nb] at cmp
              have c0 : ¬ 0 < wr (if 480 * r + 480 * σC 84 (R i) = (σC 85 (R i) - d) * n then 0 else -1) := by
                split <;> decide
              refine Or.inr (Or.inl ⟨(r + σC 84 (R i), s + σC 86 (R i) * σC 84 (R i), ((x ||| 2 ^ R i : Nat) : Int), (i : Int) + 1), (s + σC 86 (R i) * σC 84 (R i), ((x ||| 2 ^ R i : Nat) : Int), ((pc x : Nat) : Int) + 1, 480 * r + 480 * σC 84 (R i), 1, (i : Int) + 1), m - 1, ?_, ?_, by omega, i + 1, i + 1, by simp, by simp, by omega, by omega, by omega, Or.inl ⟨rfl, rfl, rfl, by dsimp only; omega, by dsimp only; omega, by dsimp only; omega, by dsimp only; omega, by dsimp only; omega, x ||| 2 ^ R i, b3, rfl, rfl, by rw [b2]; simp, fun q hq => ?_⟩⟩)
              · unfold bdX5_weigh_12
                rw [if_neg kw, if_neg cb]
                simp (disch := omega) only [wr_eq, pm_gt, Int.toNat_natCast, q1, M84, M85, M86, ed, if_pos cc, b1]
              · unfold bdX12_bests_160 jnX12_bests_237l160
                rw [if_neg kw, if_neg cb, ht]
                simp (disch := omega) only [wr_eq, pm_gt, Int.toNat_natCast, q2, N18, N19, N20, ← u1, ← u2, ← u3, if_neg, if_false, Option.bind_some, ed2, cmp, if_neg c0, b1]
              · rcases bit_or hq with e | e
                · exact ⟨i, by omega, e.symm⟩
                · obtain ⟨j, j1, j2⟩ := h15 q e
                  exact ⟨j, by omega, j2⟩
            · have nb : (σC 85 (R i) - d) * n < 480 * r + 480 * σC 84 (R i) := by omega
              rw [if_pos nb] at cmp
              refine Or.inr (Or.inr (Or.inr ⟨(s + σC 86 (R i) * σC 84 (R i), ((x ||| 2 ^ R i : Nat) : Int), ((pc x : Nat) : Int) + 1, 480 * r + 480 * σC 84 (R i), 0, (i : Int) + 1), m - 1, ?_, by omega, i, i + 1, rfl, by simp, by omega, by omega, by omega, Or.inr ⟨by omega, rfl, (r + σC 84 (R i), s, (x : Int), (i : Int)), ?_⟩⟩))
              · unfold bdX12_bests_160 jnX12_bests_236l160 jnX12_bests_237l160
                rw [if_neg kw, if_neg cb, ht]
                simp (disch := omega) only [wr_eq, pm_gt, Int.toNat_natCast, q2, N18, N19, N20, ← u1, ← u2, ← u3, if_neg, if_pos, if_true, if_false, Option.bind_some, ed2, cmp, b1]
              · unfold bdX5_weigh_12
                rw [if_neg kw, if_neg cb]
                simp (disch := omega) only [wr_eq, pm_gt, Int.toNat_natCast, q1, M84, M85, M86, ed, if_neg cc]
      · subst h4
        by_cases c : i' = k
        · subst c
          refine Or.inl ⟨.inl y, (s', b', c', t', 0, (i' : Int)), h5, ?_, Or.inl ⟨⟨_, rfl⟩, rfl⟩⟩
          unfold bdX12_bests_160
          rw [if_pos (Int.le_refl _)]
        · have kw : ¬ wr (k : Int) ≤ wr (i' : Int) := by rw [wr_eq (by omega) (by omega), wr_eq (by omega) (by omega)]; omega
          by_cases cb : wr (pm_and (pm_shr ch (i' : Int)) 1) = 0
          · refine Or.inr (Or.inr (Or.inr ⟨(s', b', c', t', 0, (i' : Int) + 1), m - 1, ?_, by omega, i, i' + 1, rfl, by simp, by omega, by omega, by omega, Or.inr ⟨by omega, rfl, y, h5⟩⟩))
            unfold bdX12_bests_160
            rw [if_neg kw, if_pos cb]
          · obtain ⟨q1, q2⟩ := hR i' (by omega)
            have q3 := hR1 i' (by omega)
            refine Or.inr (Or.inr (Or.inr ⟨(s' + σM 20 (R i') * σM 18 (R i'), pm_or b' (pm_shl 1 (R i' : Int)), c' + 1, t' + 480 * wr (σM 18 (R i')), 0, (i' : Int) + 1), m - 1, ?_, by omega, i, i' + 1, rfl, by simp, by omega, by omega, by omega, Or.inr ⟨by omega, rfl, y, h5⟩⟩))
            have wi : wr (i' : Int) = i' := wr_eq (by omega) (by omega)
            have wR : wr (R i' : Int) = R i' := wr_eq (by omega) (by omega)
            unfold bdX12_bests_160 jnX12_bests_236l160 jnX12_bests_237l160
            rw [if_neg kw, if_neg cb]
            simp (disch := omega) only [wi, Int.toNat_natCast, q2, wR, pm_gt, if_pos wr_0, N18, N20]) k pm_fuel pm_fuel (0, 0, 0, 0) (0, 0, 0, 0, 1, 0)
    ⟨0, 0, rfl, rfl, by omega, by omega, rfl, Or.inl ⟨rfl, rfl, rfl, Int.le_refl _, Int.le_refl _, Int.le_refl _, Int.le_refl _, rfl, 0, by decide, rfl, rfl, rfl, fun q hq => by simp at hq⟩⟩ (pm_fl (by omega)) (pm_fl (by omega))
  exact ⟨y, y', e1, e2, hQ⟩
end WE
