theorem w_bef_n {t : Nat → Int} : ∀ d, (∀ i, i ≤ d → t i = -1) → w_bef t d = -1
  | 0, h => h 0 (Nat.le_refl _)
  | d + 1, h => by
    unfold w_bef
    rw [if_neg (by rw [h (d + 1) (Nat.le_refl _)]; simp)]
    exact w_bef_n d (fun i hi => h i (by omega))
theorem w_aft_n {t : Nat → Int} : ∀ d, (∀ i, i ≤ 100 → t i = -1) → w_aft t d = -1
  | 0, h => h 100 (Nat.le_refl _)
  | d + 1, h => by
    unfold w_aft
    rw [if_neg (by rw [h (99 - d) (by omega)]; simp)]
    exact w_aft_n d h
theorem w_rk_n {t : Nat → Int} {z : Int} {d : Nat} (hd : d < 101) (h : ∀ i, i ≤ 100 → t i = -1) : w_rk z t d = z := by
  unfold w_rk
  rw [w_bef_n d (fun i hi => h i (by omega)), w_aft_n _ h, if_pos rfl, if_pos rfl]
def sC0 : pm_M := sgC_X11_init0 sg_0
def sM0 : pm_M := sgM_X12_init0 sg_0
theorem st_rf : R_rf sC0 sM0 := fun i _ => rfl
theorem st_mon : R_mon sC0 sM0 := ⟨fun i _ => ⟨rfl, Int.le_refl _, show (0 : Int) ≤ 99 by decide⟩, fun i _ => rfl, rfl, Int.le_refl _, by decide, rfl⟩
theorem st_ord : R_ord sC0 sM0 := ⟨rfl, Int.le_refl _, by decide, fun i hi => by
  have h0 : (i : Int) < 0 := hi
  omega⟩
theorem st_mrkE : sM0 0 32 = 0 := rfl
theorem st_vals (i : Nat) : (i < 9 → sC0 11 i = 5 ∧ sM0 3 i = 5 ∧ sC0 12 i = 10 ∧ sM0 4 i = 10 ∧ sC0 13 i = 8 ∧ sM0 5 i = 8) ∧ (i < 101 → sC0 3 i = -1 ∧ sC0 4 i = -1 ∧ sC0 7 i = 20 ∧ sC0 8 i = 4) ∧ (i < 202 → sM0 2 i = -1) := by
  refine ⟨fun h => ?_, fun h => ?_, fun h => ?_⟩ <;> simp (decide := true) [sC0, sM0, sgC_X9_init0, sgC_X7_init0, sgC_X0_init0, sgC_X3_init0, sgC_X2_init0, sgC_X6_init0, sgC_X8_init0, sgC_X1_init0, sgC_X10_init0, sgC_X0_init1, sgC_X3_init1, sgC_X2_init1, sgC_X6_init1, sgC_X8_init1, sgC_X1_init1, sgC_X10_init1, sgC_X5_init0, sgC_X4_init0, sgC_X11_init0, sgM_X12_init0, pm_tailM, pm_fill, pm_up, sg_0, h]
