/-! ===== the easy pairs ===== -/
theorem e_num {i n : Int} (hi : wr i = i) (hn : wr n = n) : fX11_isNumber i n = some (if 0 ≤ i ∧ i < n then 1 else 0) := by
  unfold fX11_isNumber
  rw [hi, hn]
  by_cases h1 : i < 0
  · rw [if_pos h1, if_neg (by omega)]
  · rw [if_neg h1]
    by_cases h2 : n ≤ i
    · rw [if_pos h2, if_neg (by omega)]
    · rw [if_neg h2, if_pos (by omega)]
theorem e_in {i n : Int} (hi : wr i = i) (hn : wr n = n) : fX12_isIn i n = some (if 0 ≤ i ∧ i < n then 1 else 0) := by
  unfold fX12_isIn
  rw [hi, hn]
  by_cases h1 : i < 0
  · rw [if_pos h1, if_neg (by omega)]
  · rw [if_neg h1]
    by_cases h2 : n ≤ i
    · rw [if_pos h2, if_neg (by omega)]
    · rw [if_neg h2, if_pos (by omega)]
theorem e_kind {i : Int} {σ : pm_M} (hi : wr i = i) : fX12_isKind i σ = some (if 0 ≤ i ∧ i < 9 then 1 else 0) := by
  unfold fX12_isKind
  rw [e_in hi (wr_eq (by decide) (by decide)), Option.bind_some]
  unfold pm_g
  rw [if_pos (by split <;> simp)]
theorem wr_n (n : Nat) (h : n < 2147483648) : wr (OfNat.ofNat n : Int) = (OfNat.ofNat n : Int) := wr_eq (by show _ ≤ (n : Int); omega) (by show (n : Int) < _; omega)
theorem wr_0 : wr 0 = 0 := by decide
theorem wr_1 : wr 1 = 1 := by decide
/-- a refusal by both -/
theorem pm_R_rf {σC σM : pm_M} (h : pm_R σC σM) {n : Nat} : pm_R (pm_up σC 93 n (σC 93 n + 1)) (pm_up σM 1 n (σM 1 n + 1)) ∨ 7 ≤ n := by
  by_cases hn : n < 7
  · left
    obtain ⟨h1, h2, h3, h4, h5, h6, h7, h8, h9⟩ := h
    refine ⟨?_, h2, h3, h4, h5, h6, h7, h8, h9⟩
    intro i hi
    rw [pm_up_c, pm_up_c, if_pos rfl, if_pos rfl]
    show (if i = n then _ else _) = (if i = n then _ else _)
    by_cases e : i = n
    · rw [if_pos e, if_pos e, h1 n hn]
    · rw [if_neg e, if_neg e, h1 i hi]
  · exact Or.inr (by omega)
theorem pp_ref {σC σM : pm_M} (h : pm_R σC σM) {x : Int} (hx : -6 ≤ x ∧ x ≤ -1) : pp_ pm_R ((fX11_refuse x σC).bind fun q => some (q.1, q.2)) ((fX12_refuse x σM).bind fun q => some (q.1, q.2)) := by
  have e1 : wr (-x) = -x := wr_eq (by omega) (by omega)
  unfold fX11_refuse fX12_refuse
  rw [e1]
  unfold pm_g
  have hc : 0 ≤ -x ∧ -x < 7 := by omega
  simp only [if_pos hc, Option.bind_some]
  refine pp_ret rfl ?_
  rcases pm_R_rf h (n := Int.toNat (-x)) with h | h
  · exact h
  · omega
theorem e_wrong {v a b : Int} (hv : wr v = v) (ha : wr a = a) : fX12_wrong v a b = some (if a ≤ v then (if v ≤ wr b then 0 else -6) else -4) := by
  unfold fX12_wrong
  rw [hv, ha]
  split
  · split <;> rfl
  · rfl
