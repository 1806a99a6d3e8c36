theorem st_mrk : R_mrk sC0 sM0 := by
  refine ⟨fun i _ => ⟨rfl, Int.le_refl _, show (0 : Int) ≤ 99 by decide⟩, fun m _ => rfl, fun v hv h => ?_, fun p _ _ => rfl, fun v q hv _ h => ?_, fun v i w hv h => ?_, fun p h => ?_⟩
  · exfalso
    revert h
    rcases (show v = 0 ∨ v = 1 ∨ v = 2 by omega) with rfl | rfl | rfl <;> decide
  · have h0 : (0 : Int) < 0 := h
    omega
  · have h0 : (i : Int) < 0 := h
    omega
  · have h0 : (p : Int) < 0 := h
    omega
theorem pm_start : pm_R (sgC_X11_init0 sg_0) (sgM_X12_init0 sg_0) := ⟨st_rf, st_rag, st_mon, st_ord, st_old, st_wea, st_tim, st_mrk, st_mrkE, fun i _ => ⟨Int.le_refl _, show (0 : Int) ≤ 99 by decide⟩⟩
