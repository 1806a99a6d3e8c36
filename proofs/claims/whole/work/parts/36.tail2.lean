/-! ===== the loops of the reference's constructor ===== -/
def pm_tailM (σ : pm_M) : pm_M := pm_fill (pm_fill (pm_fill (pm_fill σ 2 202 (-1)) 3 9 5) 4 9 10) 5 9 8
def pm_td (σ : pm_M) (k : Nat) : pm_M := fun c j => if c = 2 ∧ (j < k ∨ 101 ≤ j ∧ j < 101 + k) then -1 else σ c j
theorem pm_tail1 (σ : pm_M) : ∃ b, pm_it (fun a : Int × pm_M => bdX12_init_266 a.1 a.2) pm_fuel (0, σ) = some b ∧ b.2 = pm_fill σ 2 202 (-1) := by
  refine pm_it_ok (f := fun x : Int × pm_M => bdX12_init_266 x.1 x.2) (fun x => ∃ k : Nat, k ≤ 101 ∧ x.1 = (k : Int) ∧ x.2 = pm_td σ k) (fun x : Int × pm_M => x.2 = pm_fill σ 2 202 (-1)) (fun x => 101 - x.1.toNat) ?_ pm_fuel (0, σ) ⟨0, Nat.zero_le _, rfl, by funext c j; unfold pm_td; rw [if_neg (by omega)]⟩ (by unfold pm_fuel; simp)
  rintro ⟨i, τ⟩ ⟨k, hk, h1, h2⟩
  simp only at h1 h2
  subst h1
  subst h2
  simp only [bdX12_init_266]
  rw [wr_nat (k := k) (by omega), show (101 + (k : Int)) = ((101 + k : Nat) : Int) by omega, wr_nat (k := 101 + k) (by omega)]
  by_cases hc : (101 : Int) ≤ k
  · left
    refine ⟨_, if_pos hc, ?_⟩
    have : k = 101 := by omega
    subst this
    funext c j
    show pm_td σ 101 c j = _
    unfold pm_td pm_fill
    by_cases e : c = 2 ∧ j < 202
    · rw [if_pos e, if_pos (by omega)]
    · rw [if_neg e, if_neg (by omega)]
  · right
    rw [if_neg hc]
    unfold pm_g
    rw [if_pos (by omega), if_pos (by omega)]
    refine ⟨_, rfl, ⟨k + 1, by omega, by simp, ?_⟩, by simp; omega⟩
    funext c j
    show pm_up (pm_up (pm_td σ k) 2 (Int.toNat (k : Int)) (-1)) 2 (Int.toNat ((101 + k : Nat) : Int)) (-1) c j = _
    rw [Int.toNat_natCast, Int.toNat_natCast]
    unfold pm_up pm_td
    by_cases e : c = 2
    · subst e
      simp only [true_and]
      by_cases e2 : j = 101 + k
      · rw [if_pos e2, if_pos (by omega)]
      · rw [if_neg e2]
        by_cases e3 : j = k
        · rw [if_pos e3, if_pos (by omega)]
        · rw [if_neg e3]
          by_cases e4 : j < k ∨ 101 ≤ j ∧ j < 101 + k
          · rw [if_pos e4, if_pos (by omega)]
          · rw [if_neg e4, if_neg (by omega)]
    · rw [if_neg (fun q => e q.1), if_neg (fun q => e q.1), if_neg (fun q => e q.1), if_neg (fun q => e q.1)]
def pm_tk (σ : pm_M) (k : Nat) : pm_M := pm_fill (pm_fill (pm_fill σ 3 k 5) 4 k 10) 5 k 8
theorem pm_fill_0 (σ : pm_M) (a : Nat) (v : Int) : pm_fill σ a 0 v = σ := by
  funext c j
  unfold pm_fill
  rw [if_neg (by omega)]
theorem pm_tail2 (σ : pm_M) : ∃ b, pm_it (fun a : Int × pm_M => bdX12_init_297 a.1 a.2) pm_fuel (0, σ) = some b ∧ b.2 = pm_tk σ 9 := by
  refine pm_it_ok (f := fun x : Int × pm_M => bdX12_init_297 x.1 x.2) (fun x => ∃ k : Nat, k ≤ 9 ∧ x.1 = (k : Int) ∧ x.2 = pm_tk σ k) (fun x : Int × pm_M => x.2 = pm_tk σ 9) (fun x => 9 - x.1.toNat) ?_ pm_fuel (0, σ) ⟨0, Nat.zero_le _, rfl, by unfold pm_tk; rw [pm_fill_0, pm_fill_0, pm_fill_0]⟩ (by unfold pm_fuel; simp)
  rintro ⟨i, τ⟩ ⟨k, hk, h1, h2⟩
  simp only at h1 h2
  subst h1
  subst h2
  simp only [bdX12_init_297]
  rw [wr_nat (k := k) (by omega)]
  by_cases hc : (9 : Int) ≤ k
  · left
    refine ⟨_, if_pos hc, ?_⟩
    have : k = 9 := by omega
    subst this
    rfl
  · right
    rw [if_neg hc]
    unfold pm_g
    rw [if_pos (by omega), if_pos (by omega), if_pos (by omega)]
    refine ⟨_, rfl, ⟨k + 1, by omega, by simp, ?_⟩, by simp; omega⟩
    funext c j
    show pm_up (pm_up (pm_up (pm_tk σ k) 3 (Int.toNat (k : Int)) 5) 4 (Int.toNat (k : Int)) 10) 5 (Int.toNat (k : Int)) 8 c j = _
    rw [Int.toNat_natCast]
    unfold pm_up pm_tk pm_fill
    by_cases e : c = 3
    · subst e
      by_cases e2 : j = k
      · simp [e2]
      · simp [e2, show j < k + 1 ↔ j < k by omega]
    · by_cases e : c = 4
      · subst e
        by_cases e2 : j = k
        · simp [e2]
        · simp [e2, show j < k + 1 ↔ j < k by omega]
      · by_cases e : c = 5
        · subst e
          by_cases e2 : j = k
          · simp [e2]
          · simp [e2, show j < k + 1 ↔ j < k by omega]
        · simp [*]
theorem pm_tail (σ : pm_M) : fX12_tail σ = some (pm_tailM σ) := by
  obtain ⟨b, h1, h2⟩ := pm_tail1 σ
  obtain ⟨b2, h3, h4⟩ := pm_tail2 b.2
  unfold fX12_tail
  rw [h1, Option.bind_some, h3, Option.bind_some, h4, h2]
  rfl
