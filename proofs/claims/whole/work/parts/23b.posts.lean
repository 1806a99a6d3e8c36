def fX6_finish (b : Nat) (x1 : Int) (σ : pm_M) : Option (Int × pm_M) :=
  pm_g (0 ≤ (wr x1) ∧ (wr x1) < 80) (pm_g (0 ≤ (wr x1) ∧ (wr x1) < 80) (pm_g (0 ≤ (wr x1) ∧ (wr x1) < 80) (pm_g (0 ≤ (wr x1) ∧ (wr x1) < 80) (some (((pm_up σ (b + 21) (Int.toNat (wr x1)) (pm_max 0 (58 - (Int.tdiv (wr ((σ (b + 18) (Int.toNat (wr x1))) - (σ (b + 17) (Int.toNat (wr x1))))) 24)))) (b + 21) (Int.toNat (wr x1))), (pm_up σ (b + 21) (Int.toNat (wr x1)) (pm_max 0 (58 - (Int.tdiv (wr ((σ (b + 18) (Int.toNat (wr x1))) - (σ (b + 17) (Int.toNat (wr x1))))) 24)))))))))
set_option maxHeartbeats 4000000 in
set_option maxRecDepth 100000 in
theorem tmX6_finish {b : Nat} (hb : b = 15 ∨ b = 48) {x1 : Int} {σ : pm_M} {ρ : Int × pm_M} (h : fX6_finish b x1 σ = some ρ) : pm_C mX6_finish 1 21 [pv_r (b + 11), pv_i x1] LAYC σ (some (pv_i ρ.1)) LAYC ρ.2 := by
  refine pm_C.of (by decide) rfl (Nat.le_of_ble_eq_true rfl) ?_
  show pm_J mX6_finish 1 21 LAYC (some (pv_i ρ.1)) LAYC ρ.2 0 [some (pv_r (b + 11)), some (pv_i x1), none] [] LAYC σ
  unfold fX6_finish at h
  refine pr_aload_n dX6_finish_0 rfl ?_
  refine pr_getR dX6_finish_1 lk_X6_28 (lw_11 hb) rfl ?_
  refine pr_iload_n dX6_finish_4 rfl ?_
  obtain ⟨g_1, h⟩ := pm_gs h
  refine pr_iald dX6_finish_5 (lw_18 hb) rfl g_1 ?_
  refine pr_aload_n dX6_finish_6 rfl ?_
  refine pr_getR dX6_finish_7 lk_X6_25 (lw_11 hb) rfl ?_
  refine pr_iload_n dX6_finish_10 rfl ?_
  obtain ⟨g_2, h⟩ := pm_gs h
  refine pr_iald dX6_finish_11 (lw_17 hb) rfl g_2 ?_
  refine pr_isub dX6_finish_12 ?_
  refine pr_bipush dX6_finish_13 (by decide) ?_
  refine pr_idiv dX6_finish_15 rfl (wr_eq (by decide) (by decide)) (by decide) ?_
  refine pr_istore_n dX6_finish_16 (by decide) rfl ?_
  refine pr_aload_n dX6_finish_17 rfl ?_
  refine pr_getR dX6_finish_18 lk_X6_37 (lw_11 hb) rfl ?_
  refine pr_iload_n dX6_finish_21 rfl ?_
  refine pr_iconst dX6_finish_22 ?_
  refine pr_bipush dX6_finish_23 (by decide) ?_
  refine pr_iload_n dX6_finish_25 rfl ?_
  refine pr_isub dX6_finish_26 ?_
  refine pr_mmax dX6_finish_27 mm_X6_61 (by decide) (Nat.le_of_ble_eq_true rfl) ?_
  obtain ⟨g_3, h⟩ := pm_gs h
  refine pr_iast dX6_finish_30 (lw_21 hb) rfl g_3 ?_
  refine pr_aload_n dX6_finish_31 rfl ?_
  refine pr_getR dX6_finish_32 lk_X6_37 (lw_11 hb) rfl ?_
  refine pr_iload_n dX6_finish_35 rfl ?_
  obtain ⟨g_4, h⟩ := pm_gs h
  refine pr_iald dX6_finish_36 (lw_21 hb) rfl g_4 ?_
  have h := Option.some.inj h
  subst h
  exact pr_iret dX6_finish_37 rfl
