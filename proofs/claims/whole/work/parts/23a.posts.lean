def fX6_copyFrom (σ : pm_M) : Option (pm_M) :=
  (fX11_copyRow 30 80 63 80 σ).bind fun q1 => (fX11_copyRow 31 80 64 80 q1).bind fun q3 => (fX11_copyRow 32 80 65 80 q3).bind fun q5 => (fX11_copyRow 33 80 66 80 q5).bind fun q7 => (fX11_copyRow 34 80 67 80 q7).bind fun q9 => (fX11_copyRow 35 80 68 80 q9).bind fun q11 => (fX11_copyRow 36 80 69 80 q11).bind fun q13 => some (pm_up (pm_up (pm_up (pm_up q13 59 8 (q13 26 8)) 59 9 ((pm_up q13 59 8 (q13 26 8)) 26 9)) 59 10 ((pm_up (pm_up q13 59 8 (q13 26 8)) 59 9 ((pm_up q13 59 8 (q13 26 8)) 26 9)) 26 10)) 59 11 ((pm_up (pm_up (pm_up q13 59 8 (q13 26 8)) 59 9 ((pm_up q13 59 8 (q13 26 8)) 26 9)) 59 10 ((pm_up (pm_up q13 59 8 (q13 26 8)) 59 9 ((pm_up q13 59 8 (q13 26 8)) 26 9)) 26 10)) 26 11))
set_option maxHeartbeats 4000000 in
set_option maxRecDepth 100000 in
theorem tmX6_copyFrom {σ : pm_M} {ρ : pm_M} (h : fX6_copyFrom σ = some ρ) : pm_C mX6_copyFrom 2 81 [pv_r 59, pv_r 26] LAYC σ none LAYC ρ := by
  refine pm_C.of (by decide) rfl (Nat.le_of_ble_eq_true rfl) ?_
  show pm_J mX6_copyFrom 2 81 LAYC none LAYC ρ 0 [some (pv_r 59), some (pv_r 26)] [] LAYC σ
  unfold fX6_copyFrom at h
  refine pr_aload_n dX6_copyFrom_0 rfl ?_
  refine pr_getR dX6_copyFrom_1 lk_X6_18 lc_26 rfl ?_
  refine pr_aload_n dX6_copyFrom_4 rfl ?_
  refine pr_getR dX6_copyFrom_5 lk_X6_18 lc_59 rfl ?_
  obtain ⟨q1, e2, h⟩ := pm_bs h
  refine pr_callSN (av := [pv_r 30, pv_r 63]) (S := []) dX6_copyFrom_8 mk_X6_44 rfl rfl (Nat.le_of_ble_eq_true rfl) (by decide) (by decide) (Or.inl rfl) (tmX11_copyRow lc_30 lc_63 e2) ?_
  refine pr_aload_n dX6_copyFrom_11 rfl ?_
  refine pr_getR dX6_copyFrom_12 lk_X6_22 lc_26 rfl ?_
  refine pr_aload_n dX6_copyFrom_15 rfl ?_
  refine pr_getR dX6_copyFrom_16 lk_X6_22 lc_59 rfl ?_
  obtain ⟨q3, e4, h⟩ := pm_bs h
  refine pr_callSN (av := [pv_r 31, pv_r 64]) (S := []) dX6_copyFrom_19 mk_X6_44 rfl rfl (Nat.le_of_ble_eq_true rfl) (by decide) (by decide) (Or.inl rfl) (tmX11_copyRow lc_31 lc_64 e4) ?_
  refine pr_aload_n dX6_copyFrom_22 rfl ?_
  refine pr_getR dX6_copyFrom_23 lk_X6_25 lc_26 rfl ?_
  refine pr_aload_n dX6_copyFrom_26 rfl ?_
  refine pr_getR dX6_copyFrom_27 lk_X6_25 lc_59 rfl ?_
  obtain ⟨q5, e6, h⟩ := pm_bs h
  refine pr_callSN (av := [pv_r 32, pv_r 65]) (S := []) dX6_copyFrom_30 mk_X6_44 rfl rfl (Nat.le_of_ble_eq_true rfl) (by decide) (by decide) (Or.inl rfl) (tmX11_copyRow lc_32 lc_65 e6) ?_
  refine pr_aload_n dX6_copyFrom_33 rfl ?_
  refine pr_getR dX6_copyFrom_34 lk_X6_28 lc_26 rfl ?_
  refine pr_aload_n dX6_copyFrom_37 rfl ?_
  refine pr_getR dX6_copyFrom_38 lk_X6_28 lc_59 rfl ?_
  obtain ⟨q7, e8, h⟩ := pm_bs h
  refine pr_callSN (av := [pv_r 33, pv_r 66]) (S := []) dX6_copyFrom_41 mk_X6_44 rfl rfl (Nat.le_of_ble_eq_true rfl) (by decide) (by decide) (Or.inl rfl) (tmX11_copyRow lc_33 lc_66 e8) ?_
  refine pr_aload_n dX6_copyFrom_44 rfl ?_
  refine pr_getR dX6_copyFrom_45 lk_X6_31 lc_26 rfl ?_
  refine pr_aload_n dX6_copyFrom_48 rfl ?_
  refine pr_getR dX6_copyFrom_49 lk_X6_31 lc_59 rfl ?_
  obtain ⟨q9, e10, h⟩ := pm_bs h
  refine pr_callSN (av := [pv_r 34, pv_r 67]) (S := []) dX6_copyFrom_52 mk_X6_44 rfl rfl (Nat.le_of_ble_eq_true rfl) (by decide) (by decide) (Or.inl rfl) (tmX11_copyRow lc_34 lc_67 e10) ?_
  refine pr_aload_n dX6_copyFrom_55 rfl ?_
  refine pr_getR dX6_copyFrom_56 lk_X6_34 lc_26 rfl ?_
  refine pr_aload_n dX6_copyFrom_59 rfl ?_
  refine pr_getR dX6_copyFrom_60 lk_X6_34 lc_59 rfl ?_
  obtain ⟨q11, e12, h⟩ := pm_bs h
  refine pr_callSN (av := [pv_r 35, pv_r 68]) (S := []) dX6_copyFrom_63 mk_X6_44 rfl rfl (Nat.le_of_ble_eq_true rfl) (by decide) (by decide) (Or.inl rfl) (tmX11_copyRow lc_35 lc_68 e12) ?_
  refine pr_aload_n dX6_copyFrom_66 rfl ?_
  refine pr_getR dX6_copyFrom_67 lk_X6_37 lc_26 rfl ?_
  refine pr_aload_n dX6_copyFrom_70 rfl ?_
  refine pr_getR dX6_copyFrom_71 lk_X6_37 lc_59 rfl ?_
  obtain ⟨q13, e14, h⟩ := pm_bs h
  refine pr_callSN (av := [pv_r 36, pv_r 69]) (S := []) dX6_copyFrom_74 mk_X6_44 rfl rfl (Nat.le_of_ble_eq_true rfl) (by decide) (by decide) (Or.inl rfl) (tmX11_copyRow lc_36 lc_69 e14) ?_
  refine pr_aload_n dX6_copyFrom_77 rfl ?_
  refine pr_aload_n dX6_copyFrom_78 rfl ?_
  refine pr_getI dX6_copyFrom_79 lk_X6_48 lc_26 rfl ?_
  refine pr_putI dX6_copyFrom_82 lp_X6_48 lc_59 rfl ?_
  refine pr_aload_n dX6_copyFrom_85 rfl ?_
  refine pr_aload_n dX6_copyFrom_86 rfl ?_
  refine pr_getI dX6_copyFrom_87 lk_X6_51 lc_26 rfl ?_
  refine pr_putI dX6_copyFrom_90 lp_X6_51 lc_59 rfl ?_
  refine pr_aload_n dX6_copyFrom_93 rfl ?_
  refine pr_aload_n dX6_copyFrom_94 rfl ?_
  refine pr_getI dX6_copyFrom_95 lk_X6_54 lc_26 rfl ?_
  refine pr_putI dX6_copyFrom_98 lp_X6_54 lc_59 rfl ?_
  refine pr_aload_n dX6_copyFrom_101 rfl ?_
  refine pr_aload_n dX6_copyFrom_102 rfl ?_
  refine pr_getI dX6_copyFrom_103 lk_X6_40 lc_26 rfl ?_
  refine pr_putI dX6_copyFrom_106 lp_X6_40 lc_59 rfl ?_
  have h := Option.some.inj h
  subst h
  exact pr_vret dX6_copyFrom_109 rfl
def fX6_add (b : Nat) (x1 : Int) (x2 : Int) (x3 : Int) (σ : pm_M) : Option (pm_M) :=
  pm_g (0 ≤ (wr (σ (b + 11) 8)) ∧ (wr (σ (b + 11) 8)) < 80) (pm_g (0 ≤ (wr ((pm_up σ (b + 15) (Int.toNat (wr (σ (b + 11) 8))) x1) (b + 11) 8)) ∧ (wr ((pm_up σ (b + 15) (Int.toNat (wr (σ (b + 11) 8))) x1) (b + 11) 8)) < 80) (pm_g (0 ≤ (wr ((pm_up (pm_up σ (b + 15) (Int.toNat (wr (σ (b + 11) 8))) x1) (b + 16) (Int.toNat (wr ((pm_up σ (b + 15) (Int.toNat (wr (σ (b + 11) 8))) x1) (b + 11) 8))) x2) (b + 11) 8)) ∧ (wr ((pm_up (pm_up σ (b + 15) (Int.toNat (wr (σ (b + 11) 8))) x1) (b + 16) (Int.toNat (wr ((pm_up σ (b + 15) (Int.toNat (wr (σ (b + 11) 8))) x1) (b + 11) 8))) x2) (b + 11) 8)) < 80) (pm_g (0 ≤ (wr ((pm_up (pm_up (pm_up σ (b + 15) (Int.toNat (wr (σ (b + 11) 8))) x1) (b + 16) (Int.toNat (wr ((pm_up σ (b + 15) (Int.toNat (wr (σ (b + 11) 8))) x1) (b + 11) 8))) x2) (b + 17) (Int.toNat (wr ((pm_up (pm_up σ (b + 15) (Int.toNat (wr (σ (b + 11) 8))) x1) (b + 16) (Int.toNat (wr ((pm_up σ (b + 15) (Int.toNat (wr (σ (b + 11) 8))) x1) (b + 11) 8))) x2) (b + 11) 8))) x3) (b + 11) 8)) ∧ (wr ((pm_up (pm_up (pm_up σ (b + 15) (Int.toNat (wr (σ (b + 11) 8))) x1) (b + 16) (Int.toNat (wr ((pm_up σ (b + 15) (Int.toNat (wr (σ (b + 11) 8))) x1) (b + 11) 8))) x2) (b + 17) (Int.toNat (wr ((pm_up (pm_up σ (b + 15) (Int.toNat (wr (σ (b + 11) 8))) x1) (b + 16) (Int.toNat (wr ((pm_up σ (b + 15) (Int.toNat (wr (σ (b + 11) 8))) x1) (b + 11) 8))) x2) (b + 11) 8))) x3) (b + 11) 8)) < 80) (pm_g (0 ≤ (wr ((pm_up (pm_up (pm_up (pm_up σ (b + 15) (Int.toNat (wr (σ (b + 11) 8))) x1) (b + 16) (Int.toNat (wr ((pm_up σ (b + 15) (Int.toNat (wr (σ (b + 11) 8))) x1) (b + 11) 8))) x2) (b + 17) (Int.toNat (wr ((pm_up (pm_up σ (b + 15) (Int.toNat (wr (σ (b + 11) 8))) x1) (b + 16) (Int.toNat (wr ((pm_up σ (b + 15) (Int.toNat (wr (σ (b + 11) 8))) x1) (b + 11) 8))) x2) (b + 11) 8))) x3) (b + 18) (Int.toNat (wr ((pm_up (pm_up (pm_up σ (b + 15) (Int.toNat (wr (σ (b + 11) 8))) x1) (b + 16) (Int.toNat (wr ((pm_up σ (b + 15) (Int.toNat (wr (σ (b + 11) 8))) x1) (b + 11) 8))) x2) (b + 17) (Int.toNat (wr ((pm_up (pm_up σ (b + 15) (Int.toNat (wr (σ (b + 11) 8))) x1) (b + 16) (Int.toNat (wr ((pm_up σ (b + 15) (Int.toNat (wr (σ (b + 11) 8))) x1) (b + 11) 8))) x2) (b + 11) 8))) x3) (b + 11) 8))) (-9)) (b + 11) 8)) ∧ (wr ((pm_up (pm_up (pm_up (pm_up σ (b + 15) (Int.toNat (wr (σ (b + 11) 8))) x1) (b + 16) (Int.toNat (wr ((pm_up σ (b + 15) (Int.toNat (wr (σ (b + 11) 8))) x1) (b + 11) 8))) x2) (b + 17) (Int.toNat (wr ((pm_up (pm_up σ (b + 15) (Int.toNat (wr (σ (b + 11) 8))) x1) (b + 16) (Int.toNat (wr ((pm_up σ (b + 15) (Int.toNat (wr (σ (b + 11) 8))) x1) (b + 11) 8))) x2) (b + 11) 8))) x3) (b + 18) (Int.toNat (wr ((pm_up (pm_up (pm_up σ (b + 15) (Int.toNat (wr (σ (b + 11) 8))) x1) (b + 16) (Int.toNat (wr ((pm_up σ (b + 15) (Int.toNat (wr (σ (b + 11) 8))) x1) (b + 11) 8))) x2) (b + 17) (Int.toNat (wr ((pm_up (pm_up σ (b + 15) (Int.toNat (wr (σ (b + 11) 8))) x1) (b + 16) (Int.toNat (wr ((pm_up σ (b + 15) (Int.toNat (wr (σ (b + 11) 8))) x1) (b + 11) 8))) x2) (b + 11) 8))) x3) (b + 11) 8))) (-9)) (b + 11) 8)) < 80) (pm_g (0 ≤ (wr ((pm_up (pm_up (pm_up (pm_up (pm_up σ (b + 15) (Int.toNat (wr (σ (b + 11) 8))) x1) (b + 16) (Int.toNat (wr ((pm_up σ (b + 15) (Int.toNat (wr (σ (b + 11) 8))) x1) (b + 11) 8))) x2) (b + 17) (Int.toNat (wr ((pm_up (pm_up σ (b + 15) (Int.toNat (wr (σ (b + 11) 8))) x1) (b + 16) (Int.toNat (wr ((pm_up σ (b + 15) (Int.toNat (wr (σ (b + 11) 8))) x1) (b + 11) 8))) x2) (b + 11) 8))) x3) (b + 18) (Int.toNat (wr ((pm_up (pm_up (pm_up σ (b + 15) (Int.toNat (wr (σ (b + 11) 8))) x1) (b + 16) (Int.toNat (wr ((pm_up σ (b + 15) (Int.toNat (wr (σ (b + 11) 8))) x1) (b + 11) 8))) x2) (b + 17) (Int.toNat (wr ((pm_up (pm_up σ (b + 15) (Int.toNat (wr (σ (b + 11) 8))) x1) (b + 16) (Int.toNat (wr ((pm_up σ (b + 15) (Int.toNat (wr (σ (b + 11) 8))) x1) (b + 11) 8))) x2) (b + 11) 8))) x3) (b + 11) 8))) (-9)) (b + 19) (Int.toNat (wr ((pm_up (pm_up (pm_up (pm_up σ (b + 15) (Int.toNat (wr (σ (b + 11) 8))) x1) (b + 16) (Int.toNat (wr ((pm_up σ (b + 15) (Int.toNat (wr (σ (b + 11) 8))) x1) (b + 11) 8))) x2) (b + 17) (Int.toNat (wr ((pm_up (pm_up σ (b + 15) (Int.toNat (wr (σ (b + 11) 8))) x1) (b + 16) (Int.toNat (wr ((pm_up σ (b + 15) (Int.toNat (wr (σ (b + 11) 8))) x1) (b + 11) 8))) x2) (b + 11) 8))) x3) (b + 18) (Int.toNat (wr ((pm_up (pm_up (pm_up σ (b + 15) (Int.toNat (wr (σ (b + 11) 8))) x1) (b + 16) (Int.toNat (wr ((pm_up σ (b + 15) (Int.toNat (wr (σ (b + 11) 8))) x1) (b + 11) 8))) x2) (b + 17) (Int.toNat (wr ((pm_up (pm_up σ (b + 15) (Int.toNat (wr (σ (b + 11) 8))) x1) (b + 16) (Int.toNat (wr ((pm_up σ (b + 15) (Int.toNat (wr (σ (b + 11) 8))) x1) (b + 11) 8))) x2) (b + 11) 8))) x3) (b + 11) 8))) (-9)) (b + 11) 8))) 0) (b + 11) 8)) ∧ (wr ((pm_up (pm_up (pm_up (pm_up (pm_up σ (b + 15) (Int.toNat (wr (σ (b + 11) 8))) x1) (b + 16) (Int.toNat (wr ((pm_up σ (b + 15) (Int.toNat (wr (σ (b + 11) 8))) x1) (b + 11) 8))) x2) (b + 17) (Int.toNat (wr ((pm_up (pm_up σ (b + 15) (Int.toNat (wr (σ (b + 11) 8))) x1) (b + 16) (Int.toNat (wr ((pm_up σ (b + 15) (Int.toNat (wr (σ (b + 11) 8))) x1) (b + 11) 8))) x2) (b + 11) 8))) x3) (b + 18) (Int.toNat (wr ((pm_up (pm_up (pm_up σ (b + 15) (Int.toNat (wr (σ (b + 11) 8))) x1) (b + 16) (Int.toNat (wr ((pm_up σ (b + 15) (Int.toNat (wr (σ (b + 11) 8))) x1) (b + 11) 8))) x2) (b + 17) (Int.toNat (wr ((pm_up (pm_up σ (b + 15) (Int.toNat (wr (σ (b + 11) 8))) x1) (b + 16) (Int.toNat (wr ((pm_up σ (b + 15) (Int.toNat (wr (σ (b + 11) 8))) x1) (b + 11) 8))) x2) (b + 11) 8))) x3) (b + 11) 8))) (-9)) (b + 19) (Int.toNat (wr ((pm_up (pm_up (pm_up (pm_up σ (b + 15) (Int.toNat (wr (σ (b + 11) 8))) x1) (b + 16) (Int.toNat (wr ((pm_up σ (b + 15) (Int.toNat (wr (σ (b + 11) 8))) x1) (b + 11) 8))) x2) (b + 17) (Int.toNat (wr ((pm_up (pm_up σ (b + 15) (Int.toNat (wr (σ (b + 11) 8))) x1) (b + 16) (Int.toNat (wr ((pm_up σ (b + 15) (Int.toNat (wr (σ (b + 11) 8))) x1) (b + 11) 8))) x2) (b + 11) 8))) x3) (b + 18) (Int.toNat (wr ((pm_up (pm_up (pm_up σ (b + 15) (Int.toNat (wr (σ (b + 11) 8))) x1) (b + 16) (Int.toNat (wr ((pm_up σ (b + 15) (Int.toNat (wr (σ (b + 11) 8))) x1) (b + 11) 8))) x2) (b + 17) (Int.toNat (wr ((pm_up (pm_up σ (b + 15) (Int.toNat (wr (σ (b + 11) 8))) x1) (b + 16) (Int.toNat (wr ((pm_up σ (b + 15) (Int.toNat (wr (σ (b + 11) 8))) x1) (b + 11) 8))) x2) (b + 11) 8))) x3) (b + 11) 8))) (-9)) (b + 11) 8))) 0) (b + 11) 8)) < 80) (pm_g (0 ≤ (wr ((pm_up (pm_up (pm_up (pm_up (pm_up (pm_up σ (b + 15) (Int.toNat (wr (σ (b + 11) 8))) x1) (b + 16) (Int.toNat (wr ((pm_up σ (b + 15) (Int.toNat (wr (σ (b + 11) 8))) x1) (b + 11) 8))) x2) (b + 17) (Int.toNat (wr ((pm_up (pm_up σ (b + 15) (Int.toNat (wr (σ (b + 11) 8))) x1) (b + 16) (Int.toNat (wr ((pm_up σ (b + 15) (Int.toNat (wr (σ (b + 11) 8))) x1) (b + 11) 8))) x2) (b + 11) 8))) x3) (b + 18) (Int.toNat (wr ((pm_up (pm_up (pm_up σ (b + 15) (Int.toNat (wr (σ (b + 11) 8))) x1) (b + 16) (Int.toNat (wr ((pm_up σ (b + 15) (Int.toNat (wr (σ (b + 11) 8))) x1) (b + 11) 8))) x2) (b + 17) (Int.toNat (wr ((pm_up (pm_up σ (b + 15) (Int.toNat (wr (σ (b + 11) 8))) x1) (b + 16) (Int.toNat (wr ((pm_up σ (b + 15) (Int.toNat (wr (σ (b + 11) 8))) x1) (b + 11) 8))) x2) (b + 11) 8))) x3) (b + 11) 8))) (-9)) (b + 19) (Int.toNat (wr ((pm_up (pm_up (pm_up (pm_up σ (b + 15) (Int.toNat (wr (σ (b + 11) 8))) x1) (b + 16) (Int.toNat (wr ((pm_up σ (b + 15) (Int.toNat (wr (σ (b + 11) 8))) x1) (b + 11) 8))) x2) (b + 17) (Int.toNat (wr ((pm_up (pm_up σ (b + 15) (Int.toNat (wr (σ (b + 11) 8))) x1) (b + 16) (Int.toNat (wr ((pm_up σ (b + 15) (Int.toNat (wr (σ (b + 11) 8))) x1) (b + 11) 8))) x2) (b + 11) 8))) x3) (b + 18) (Int.toNat (wr ((pm_up (pm_up (pm_up σ (b + 15) (Int.toNat (wr (σ (b + 11) 8))) x1) (b + 16) (Int.toNat (wr ((pm_up σ (b + 15) (Int.toNat (wr (σ (b + 11) 8))) x1) (b + 11) 8))) x2) (b + 17) (Int.toNat (wr ((pm_up (pm_up σ (b + 15) (Int.toNat (wr (σ (b + 11) 8))) x1) (b + 16) (Int.toNat (wr ((pm_up σ (b + 15) (Int.toNat (wr (σ (b + 11) 8))) x1) (b + 11) 8))) x2) (b + 11) 8))) x3) (b + 11) 8))) (-9)) (b + 11) 8))) 0) (b + 20) (Int.toNat (wr ((pm_up (pm_up (pm_up (pm_up (pm_up σ (b + 15) (Int.toNat (wr (σ (b + 11) 8))) x1) (b + 16) (Int.toNat (wr ((pm_up σ (b + 15) (Int.toNat (wr (σ (b + 11) 8))) x1) (b + 11) 8))) x2) (b + 17) (Int.toNat (wr ((pm_up (pm_up σ (b + 15) (Int.toNat (wr (σ (b + 11) 8))) x1) (b + 16) (Int.toNat (wr ((pm_up σ (b + 15) (Int.toNat (wr (σ (b + 11) 8))) x1) (b + 11) 8))) x2) (b + 11) 8))) x3) (b + 18) (Int.toNat (wr ((pm_up (pm_up (pm_up σ (b + 15) (Int.toNat (wr (σ (b + 11) 8))) x1) (b + 16) (Int.toNat (wr ((pm_up σ (b + 15) (Int.toNat (wr (σ (b + 11) 8))) x1) (b + 11) 8))) x2) (b + 17) (Int.toNat (wr ((pm_up (pm_up σ (b + 15) (Int.toNat (wr (σ (b + 11) 8))) x1) (b + 16) (Int.toNat (wr ((pm_up σ (b + 15) (Int.toNat (wr (σ (b + 11) 8))) x1) (b + 11) 8))) x2) (b + 11) 8))) x3) (b + 11) 8))) (-9)) (b + 19) (Int.toNat (wr ((pm_up (pm_up (pm_up (pm_up σ (b + 15) (Int.toNat (wr (σ (b + 11) 8))) x1) (b + 16) (Int.toNat (wr ((pm_up σ (b + 15) (Int.toNat (wr (σ (b + 11) 8))) x1) (b + 11) 8))) x2) (b + 17) (Int.toNat (wr ((pm_up (pm_up σ (b + 15) (Int.toNat (wr (σ (b + 11) 8))) x1) (b + 16) (Int.toNat (wr ((pm_up σ (b + 15) (Int.toNat (wr (σ (b + 11) 8))) x1) (b + 11) 8))) x2) (b + 11) 8))) x3) (b + 18) (Int.toNat (wr ((pm_up (pm_up (pm_up σ (b + 15) (Int.toNat (wr (σ (b + 11) 8))) x1) (b + 16) (Int.toNat (wr ((pm_up σ (b + 15) (Int.toNat (wr (σ (b + 11) 8))) x1) (b + 11) 8))) x2) (b + 17) (Int.toNat (wr ((pm_up (pm_up σ (b + 15) (Int.toNat (wr (σ (b + 11) 8))) x1) (b + 16) (Int.toNat (wr ((pm_up σ (b + 15) (Int.toNat (wr (σ (b + 11) 8))) x1) (b + 11) 8))) x2) (b + 11) 8))) x3) (b + 11) 8))) (-9)) (b + 11) 8))) 0) (b + 11) 8))) (-9)) (b + 11) 8)) ∧ (wr ((pm_up (pm_up (pm_up (pm_up (pm_up (pm_up σ (b + 15) (Int.toNat (wr (σ (b + 11) 8))) x1) (b + 16) (Int.toNat (wr ((pm_up σ (b + 15) (Int.toNat (wr (σ (b + 11) 8))) x1) (b + 11) 8))) x2) (b + 17) (Int.toNat (wr ((pm_up (pm_up σ (b + 15) (Int.toNat (wr (σ (b + 11) 8))) x1) (b + 16) (Int.toNat (wr ((pm_up σ (b + 15) (Int.toNat (wr (σ (b + 11) 8))) x1) (b + 11) 8))) x2) (b + 11) 8))) x3) (b + 18) (Int.toNat (wr ((pm_up (pm_up (pm_up σ (b + 15) (Int.toNat (wr (σ (b + 11) 8))) x1) (b + 16) (Int.toNat (wr ((pm_up σ (b + 15) (Int.toNat (wr (σ (b + 11) 8))) x1) (b + 11) 8))) x2) (b + 17) (Int.toNat (wr ((pm_up (pm_up σ (b + 15) (Int.toNat (wr (σ (b + 11) 8))) x1) (b + 16) (Int.toNat (wr ((pm_up σ (b + 15) (Int.toNat (wr (σ (b + 11) 8))) x1) (b + 11) 8))) x2) (b + 11) 8))) x3) (b + 11) 8))) (-9)) (b + 19) (Int.toNat (wr ((pm_up (pm_up (pm_up (pm_up σ (b + 15) (Int.toNat (wr (σ (b + 11) 8))) x1) (b + 16) (Int.toNat (wr ((pm_up σ (b + 15) (Int.toNat (wr (σ (b + 11) 8))) x1) (b + 11) 8))) x2) (b + 17) (Int.toNat (wr ((pm_up (pm_up σ (b + 15) (Int.toNat (wr (σ (b + 11) 8))) x1) (b + 16) (Int.toNat (wr ((pm_up σ (b + 15) (Int.toNat (wr (σ (b + 11) 8))) x1) (b + 11) 8))) x2) (b + 11) 8))) x3) (b + 18) (Int.toNat (wr ((pm_up (pm_up (pm_up σ (b + 15) (Int.toNat (wr (σ (b + 11) 8))) x1) (b + 16) (Int.toNat (wr ((pm_up σ (b + 15) (Int.toNat (wr (σ (b + 11) 8))) x1) (b + 11) 8))) x2) (b + 17) (Int.toNat (wr ((pm_up (pm_up σ (b + 15) (Int.toNat (wr (σ (b + 11) 8))) x1) (b + 16) (Int.toNat (wr ((pm_up σ (b + 15) (Int.toNat (wr (σ (b + 11) 8))) x1) (b + 11) 8))) x2) (b + 11) 8))) x3) (b + 11) 8))) (-9)) (b + 11) 8))) 0) (b + 20) (Int.toNat (wr ((pm_up (pm_up (pm_up (pm_up (pm_up σ (b + 15) (Int.toNat (wr (σ (b + 11) 8))) x1) (b + 16) (Int.toNat (wr ((pm_up σ (b + 15) (Int.toNat (wr (σ (b + 11) 8))) x1) (b + 11) 8))) x2) (b + 17) (Int.toNat (wr ((pm_up (pm_up σ (b + 15) (Int.toNat (wr (σ (b + 11) 8))) x1) (b + 16) (Int.toNat (wr ((pm_up σ (b + 15) (Int.toNat (wr (σ (b + 11) 8))) x1) (b + 11) 8))) x2) (b + 11) 8))) x3) (b + 18) (Int.toNat (wr ((pm_up (pm_up (pm_up σ (b + 15) (Int.toNat (wr (σ (b + 11) 8))) x1) (b + 16) (Int.toNat (wr ((pm_up σ (b + 15) (Int.toNat (wr (σ (b + 11) 8))) x1) (b + 11) 8))) x2) (b + 17) (Int.toNat (wr ((pm_up (pm_up σ (b + 15) (Int.toNat (wr (σ (b + 11) 8))) x1) (b + 16) (Int.toNat (wr ((pm_up σ (b + 15) (Int.toNat (wr (σ (b + 11) 8))) x1) (b + 11) 8))) x2) (b + 11) 8))) x3) (b + 11) 8))) (-9)) (b + 19) (Int.toNat (wr ((pm_up (pm_up (pm_up (pm_up σ (b + 15) (Int.toNat (wr (σ (b + 11) 8))) x1) (b + 16) (Int.toNat (wr ((pm_up σ (b + 15) (Int.toNat (wr (σ (b + 11) 8))) x1) (b + 11) 8))) x2) (b + 17) (Int.toNat (wr ((pm_up (pm_up σ (b + 15) (Int.toNat (wr (σ (b + 11) 8))) x1) (b + 16) (Int.toNat (wr ((pm_up σ (b + 15) (Int.toNat (wr (σ (b + 11) 8))) x1) (b + 11) 8))) x2) (b + 11) 8))) x3) (b + 18) (Int.toNat (wr ((pm_up (pm_up (pm_up σ (b + 15) (Int.toNat (wr (σ (b + 11) 8))) x1) (b + 16) (Int.toNat (wr ((pm_up σ (b + 15) (Int.toNat (wr (σ (b + 11) 8))) x1) (b + 11) 8))) x2) (b + 17) (Int.toNat (wr ((pm_up (pm_up σ (b + 15) (Int.toNat (wr (σ (b + 11) 8))) x1) (b + 16) (Int.toNat (wr ((pm_up σ (b + 15) (Int.toNat (wr (σ (b + 11) 8))) x1) (b + 11) 8))) x2) (b + 11) 8))) x3) (b + 11) 8))) (-9)) (b + 11) 8))) 0) (b + 11) 8))) (-9)) (b + 11) 8)) < 80) (some (pm_up (pm_up (pm_up (pm_up (pm_up (pm_up (pm_up (pm_up σ (b + 15) (Int.toNat (wr (σ (b + 11) 8))) x1) (b + 16) (Int.toNat (wr ((pm_up σ (b + 15) (Int.toNat (wr (σ (b + 11) 8))) x1) (b + 11) 8))) x2) (b + 17) (Int.toNat (wr ((pm_up (pm_up σ (b + 15) (Int.toNat (wr (σ (b + 11) 8))) x1) (b + 16) (Int.toNat (wr ((pm_up σ (b + 15) (Int.toNat (wr (σ (b + 11) 8))) x1) (b + 11) 8))) x2) (b + 11) 8))) x3) (b + 18) (Int.toNat (wr ((pm_up (pm_up (pm_up σ (b + 15) (Int.toNat (wr (σ (b + 11) 8))) x1) (b + 16) (Int.toNat (wr ((pm_up σ (b + 15) (Int.toNat (wr (σ (b + 11) 8))) x1) (b + 11) 8))) x2) (b + 17) (Int.toNat (wr ((pm_up (pm_up σ (b + 15) (Int.toNat (wr (σ (b + 11) 8))) x1) (b + 16) (Int.toNat (wr ((pm_up σ (b + 15) (Int.toNat (wr (σ (b + 11) 8))) x1) (b + 11) 8))) x2) (b + 11) 8))) x3) (b + 11) 8))) (-9)) (b + 19) (Int.toNat (wr ((pm_up (pm_up (pm_up (pm_up σ (b + 15) (Int.toNat (wr (σ (b + 11) 8))) x1) (b + 16) (Int.toNat (wr ((pm_up σ (b + 15) (Int.toNat (wr (σ (b + 11) 8))) x1) (b + 11) 8))) x2) (b + 17) (Int.toNat (wr ((pm_up (pm_up σ (b + 15) (Int.toNat (wr (σ (b + 11) 8))) x1) (b + 16) (Int.toNat (wr ((pm_up σ (b + 15) (Int.toNat (wr (σ (b + 11) 8))) x1) (b + 11) 8))) x2) (b + 11) 8))) x3) (b + 18) (Int.toNat (wr ((pm_up (pm_up (pm_up σ (b + 15) (Int.toNat (wr (σ (b + 11) 8))) x1) (b + 16) (Int.toNat (wr ((pm_up σ (b + 15) (Int.toNat (wr (σ (b + 11) 8))) x1) (b + 11) 8))) x2) (b + 17) (Int.toNat (wr ((pm_up (pm_up σ (b + 15) (Int.toNat (wr (σ (b + 11) 8))) x1) (b + 16) (Int.toNat (wr ((pm_up σ (b + 15) (Int.toNat (wr (σ (b + 11) 8))) x1) (b + 11) 8))) x2) (b + 11) 8))) x3) (b + 11) 8))) (-9)) (b + 11) 8))) 0) (b + 20) (Int.toNat (wr ((pm_up (pm_up (pm_up (pm_up (pm_up σ (b + 15) (Int.toNat (wr (σ (b + 11) 8))) x1) (b + 16) (Int.toNat (wr ((pm_up σ (b + 15) (Int.toNat (wr (σ (b + 11) 8))) x1) (b + 11) 8))) x2) (b + 17) (Int.toNat (wr ((pm_up (pm_up σ (b + 15) (Int.toNat (wr (σ (b + 11) 8))) x1) (b + 16) (Int.toNat (wr ((pm_up σ (b + 15) (Int.toNat (wr (σ (b + 11) 8))) x1) (b + 11) 8))) x2) (b + 11) 8))) x3) (b + 18) (Int.toNat (wr ((pm_up (pm_up (pm_up σ (b + 15) (Int.toNat (wr (σ (b + 11) 8))) x1) (b + 16) (Int.toNat (wr ((pm_up σ (b + 15) (Int.toNat (wr (σ (b + 11) 8))) x1) (b + 11) 8))) x2) (b + 17) (Int.toNat (wr ((pm_up (pm_up σ (b + 15) (Int.toNat (wr (σ (b + 11) 8))) x1) (b + 16) (Int.toNat (wr ((pm_up σ (b + 15) (Int.toNat (wr (σ (b + 11) 8))) x1) (b + 11) 8))) x2) (b + 11) 8))) x3) (b + 11) 8))) (-9)) (b + 19) (Int.toNat (wr ((pm_up (pm_up (pm_up (pm_up σ (b + 15) (Int.toNat (wr (σ (b + 11) 8))) x1) (b + 16) (Int.toNat (wr ((pm_up σ (b + 15) (Int.toNat (wr (σ (b + 11) 8))) x1) (b + 11) 8))) x2) (b + 17) (Int.toNat (wr ((pm_up (pm_up σ (b + 15) (Int.toNat (wr (σ (b + 11) 8))) x1) (b + 16) (Int.toNat (wr ((pm_up σ (b + 15) (Int.toNat (wr (σ (b + 11) 8))) x1) (b + 11) 8))) x2) (b + 11) 8))) x3) (b + 18) (Int.toNat (wr ((pm_up (pm_up (pm_up σ (b + 15) (Int.toNat (wr (σ (b + 11) 8))) x1) (b + 16) (Int.toNat (wr ((pm_up σ (b + 15) (Int.toNat (wr (σ (b + 11) 8))) x1) (b + 11) 8))) x2) (b + 17) (Int.toNat (wr ((pm_up (pm_up σ (b + 15) (Int.toNat (wr (σ (b + 11) 8))) x1) (b + 16) (Int.toNat (wr ((pm_up σ (b + 15) (Int.toNat (wr (σ (b + 11) 8))) x1) (b + 11) 8))) x2) (b + 11) 8))) x3) (b + 11) 8))) (-9)) (b + 11) 8))) 0) (b + 11) 8))) (-9)) (b + 21) (Int.toNat (wr ((pm_up (pm_up (pm_up (pm_up (pm_up (pm_up σ (b + 15) (Int.toNat (wr (σ (b + 11) 8))) x1) (b + 16) (Int.toNat (wr ((pm_up σ (b + 15) (Int.toNat (wr (σ (b + 11) 8))) x1) (b + 11) 8))) x2) (b + 17) (Int.toNat (wr ((pm_up (pm_up σ (b + 15) (Int.toNat (wr (σ (b + 11) 8))) x1) (b + 16) (Int.toNat (wr ((pm_up σ (b + 15) (Int.toNat (wr (σ (b + 11) 8))) x1) (b + 11) 8))) x2) (b + 11) 8))) x3) (b + 18) (Int.toNat (wr ((pm_up (pm_up (pm_up σ (b + 15) (Int.toNat (wr (σ (b + 11) 8))) x1) (b + 16) (Int.toNat (wr ((pm_up σ (b + 15) (Int.toNat (wr (σ (b + 11) 8))) x1) (b + 11) 8))) x2) (b + 17) (Int.toNat (wr ((pm_up (pm_up σ (b + 15) (Int.toNat (wr (σ (b + 11) 8))) x1) (b + 16) (Int.toNat (wr ((pm_up σ (b + 15) (Int.toNat (wr (σ (b + 11) 8))) x1) (b + 11) 8))) x2) (b + 11) 8))) x3) (b + 11) 8))) (-9)) (b + 19) (Int.toNat (wr ((pm_up (pm_up (pm_up (pm_up σ (b + 15) (Int.toNat (wr (σ (b + 11) 8))) x1) (b + 16) (Int.toNat (wr ((pm_up σ (b + 15) (Int.toNat (wr (σ (b + 11) 8))) x1) (b + 11) 8))) x2) (b + 17) (Int.toNat (wr ((pm_up (pm_up σ (b + 15) (Int.toNat (wr (σ (b + 11) 8))) x1) (b + 16) (Int.toNat (wr ((pm_up σ (b + 15) (Int.toNat (wr (σ (b + 11) 8))) x1) (b + 11) 8))) x2) (b + 11) 8))) x3) (b + 18) (Int.toNat (wr ((pm_up (pm_up (pm_up σ (b + 15) (Int.toNat (wr (σ (b + 11) 8))) x1) (b + 16) (Int.toNat (wr ((pm_up σ (b + 15) (Int.toNat (wr (σ (b + 11) 8))) x1) (b + 11) 8))) x2) (b + 17) (Int.toNat (wr ((pm_up (pm_up σ (b + 15) (Int.toNat (wr (σ (b + 11) 8))) x1) (b + 16) (Int.toNat (wr ((pm_up σ (b + 15) (Int.toNat (wr (σ (b + 11) 8))) x1) (b + 11) 8))) x2) (b + 11) 8))) x3) (b + 11) 8))) (-9)) (b + 11) 8))) 0) (b + 20) (Int.toNat (wr ((pm_up (pm_up (pm_up (pm_up (pm_up σ (b + 15) (Int.toNat (wr (σ (b + 11) 8))) x1) (b + 16) (Int.toNat (wr ((pm_up σ (b + 15) (Int.toNat (wr (σ (b + 11) 8))) x1) (b + 11) 8))) x2) (b + 17) (Int.toNat (wr ((pm_up (pm_up σ (b + 15) (Int.toNat (wr (σ (b + 11) 8))) x1) (b + 16) (Int.toNat (wr ((pm_up σ (b + 15) (Int.toNat (wr (σ (b + 11) 8))) x1) (b + 11) 8))) x2) (b + 11) 8))) x3) (b + 18) (Int.toNat (wr ((pm_up (pm_up (pm_up σ (b + 15) (Int.toNat (wr (σ (b + 11) 8))) x1) (b + 16) (Int.toNat (wr ((pm_up σ (b + 15) (Int.toNat (wr (σ (b + 11) 8))) x1) (b + 11) 8))) x2) (b + 17) (Int.toNat (wr ((pm_up (pm_up σ (b + 15) (Int.toNat (wr (σ (b + 11) 8))) x1) (b + 16) (Int.toNat (wr ((pm_up σ (b + 15) (Int.toNat (wr (σ (b + 11) 8))) x1) (b + 11) 8))) x2) (b + 11) 8))) x3) (b + 11) 8))) (-9)) (b + 19) (Int.toNat (wr ((pm_up (pm_up (pm_up (pm_up σ (b + 15) (Int.toNat (wr (σ (b + 11) 8))) x1) (b + 16) (Int.toNat (wr ((pm_up σ (b + 15) (Int.toNat (wr (σ (b + 11) 8))) x1) (b + 11) 8))) x2) (b + 17) (Int.toNat (wr ((pm_up (pm_up σ (b + 15) (Int.toNat (wr (σ (b + 11) 8))) x1) (b + 16) (Int.toNat (wr ((pm_up σ (b + 15) (Int.toNat (wr (σ (b + 11) 8))) x1) (b + 11) 8))) x2) (b + 11) 8))) x3) (b + 18) (Int.toNat (wr ((pm_up (pm_up (pm_up σ (b + 15) (Int.toNat (wr (σ (b + 11) 8))) x1) (b + 16) (Int.toNat (wr ((pm_up σ (b + 15) (Int.toNat (wr (σ (b + 11) 8))) x1) (b + 11) 8))) x2) (b + 17) (Int.toNat (wr ((pm_up (pm_up σ (b + 15) (Int.toNat (wr (σ (b + 11) 8))) x1) (b + 16) (Int.toNat (wr ((pm_up σ (b + 15) (Int.toNat (wr (σ (b + 11) 8))) x1) (b + 11) 8))) x2) (b + 11) 8))) x3) (b + 11) 8))) (-9)) (b + 11) 8))) 0) (b + 11) 8))) (-9)) (b + 11) 8))) (-9)) (b + 11) 8 (((pm_up (pm_up (pm_up (pm_up (pm_up (pm_up (pm_up σ (b + 15) (Int.toNat (wr (σ (b + 11) 8))) x1) (b + 16) (Int.toNat (wr ((pm_up σ (b + 15) (Int.toNat (wr (σ (b + 11) 8))) x1) (b + 11) 8))) x2) (b + 17) (Int.toNat (wr ((pm_up (pm_up σ (b + 15) (Int.toNat (wr (σ (b + 11) 8))) x1) (b + 16) (Int.toNat (wr ((pm_up σ (b + 15) (Int.toNat (wr (σ (b + 11) 8))) x1) (b + 11) 8))) x2) (b + 11) 8))) x3) (b + 18) (Int.toNat (wr ((pm_up (pm_up (pm_up σ (b + 15) (Int.toNat (wr (σ (b + 11) 8))) x1) (b + 16) (Int.toNat (wr ((pm_up σ (b + 15) (Int.toNat (wr (σ (b + 11) 8))) x1) (b + 11) 8))) x2) (b + 17) (Int.toNat (wr ((pm_up (pm_up σ (b + 15) (Int.toNat (wr (σ (b + 11) 8))) x1) (b + 16) (Int.toNat (wr ((pm_up σ (b + 15) (Int.toNat (wr (σ (b + 11) 8))) x1) (b + 11) 8))) x2) (b + 11) 8))) x3) (b + 11) 8))) (-9)) (b + 19) (Int.toNat (wr ((pm_up (pm_up (pm_up (pm_up σ (b + 15) (Int.toNat (wr (σ (b + 11) 8))) x1) (b + 16) (Int.toNat (wr ((pm_up σ (b + 15) (Int.toNat (wr (σ (b + 11) 8))) x1) (b + 11) 8))) x2) (b + 17) (Int.toNat (wr ((pm_up (pm_up σ (b + 15) (Int.toNat (wr (σ (b + 11) 8))) x1) (b + 16) (Int.toNat (wr ((pm_up σ (b + 15) (Int.toNat (wr (σ (b + 11) 8))) x1) (b + 11) 8))) x2) (b + 11) 8))) x3) (b + 18) (Int.toNat (wr ((pm_up (pm_up (pm_up σ (b + 15) (Int.toNat (wr (σ (b + 11) 8))) x1) (b + 16) (Int.toNat (wr ((pm_up σ (b + 15) (Int.toNat (wr (σ (b + 11) 8))) x1) (b + 11) 8))) x2) (b + 17) (Int.toNat (wr ((pm_up (pm_up σ (b + 15) (Int.toNat (wr (σ (b + 11) 8))) x1) (b + 16) (Int.toNat (wr ((pm_up σ (b + 15) (Int.toNat (wr (σ (b + 11) 8))) x1) (b + 11) 8))) x2) (b + 11) 8))) x3) (b + 11) 8))) (-9)) (b + 11) 8))) 0) (b + 20) (Int.toNat (wr ((pm_up (pm_up (pm_up (pm_up (pm_up σ (b + 15) (Int.toNat (wr (σ (b + 11) 8))) x1) (b + 16) (Int.toNat (wr ((pm_up σ (b + 15) (Int.toNat (wr (σ (b + 11) 8))) x1) (b + 11) 8))) x2) (b + 17) (Int.toNat (wr ((pm_up (pm_up σ (b + 15) (Int.toNat (wr (σ (b + 11) 8))) x1) (b + 16) (Int.toNat (wr ((pm_up σ (b + 15) (Int.toNat (wr (σ (b + 11) 8))) x1) (b + 11) 8))) x2) (b + 11) 8))) x3) (b + 18) (Int.toNat (wr ((pm_up (pm_up (pm_up σ (b + 15) (Int.toNat (wr (σ (b + 11) 8))) x1) (b + 16) (Int.toNat (wr ((pm_up σ (b + 15) (Int.toNat (wr (σ (b + 11) 8))) x1) (b + 11) 8))) x2) (b + 17) (Int.toNat (wr ((pm_up (pm_up σ (b + 15) (Int.toNat (wr (σ (b + 11) 8))) x1) (b + 16) (Int.toNat (wr ((pm_up σ (b + 15) (Int.toNat (wr (σ (b + 11) 8))) x1) (b + 11) 8))) x2) (b + 11) 8))) x3) (b + 11) 8))) (-9)) (b + 19) (Int.toNat (wr ((pm_up (pm_up (pm_up (pm_up σ (b + 15) (Int.toNat (wr (σ (b + 11) 8))) x1) (b + 16) (Int.toNat (wr ((pm_up σ (b + 15) (Int.toNat (wr (σ (b + 11) 8))) x1) (b + 11) 8))) x2) (b + 17) (Int.toNat (wr ((pm_up (pm_up σ (b + 15) (Int.toNat (wr (σ (b + 11) 8))) x1) (b + 16) (Int.toNat (wr ((pm_up σ (b + 15) (Int.toNat (wr (σ (b + 11) 8))) x1) (b + 11) 8))) x2) (b + 11) 8))) x3) (b + 18) (Int.toNat (wr ((pm_up (pm_up (pm_up σ (b + 15) (Int.toNat (wr (σ (b + 11) 8))) x1) (b + 16) (Int.toNat (wr ((pm_up σ (b + 15) (Int.toNat (wr (σ (b + 11) 8))) x1) (b + 11) 8))) x2) (b + 17) (Int.toNat (wr ((pm_up (pm_up σ (b + 15) (Int.toNat (wr (σ (b + 11) 8))) x1) (b + 16) (Int.toNat (wr ((pm_up σ (b + 15) (Int.toNat (wr (σ (b + 11) 8))) x1) (b + 11) 8))) x2) (b + 11) 8))) x3) (b + 11) 8))) (-9)) (b + 11) 8))) 0) (b + 11) 8))) (-9)) (b + 21) (Int.toNat (wr ((pm_up (pm_up (pm_up (pm_up (pm_up (pm_up σ (b + 15) (Int.toNat (wr (σ (b + 11) 8))) x1) (b + 16) (Int.toNat (wr ((pm_up σ (b + 15) (Int.toNat (wr (σ (b + 11) 8))) x1) (b + 11) 8))) x2) (b + 17) (Int.toNat (wr ((pm_up (pm_up σ (b + 15) (Int.toNat (wr (σ (b + 11) 8))) x1) (b + 16) (Int.toNat (wr ((pm_up σ (b + 15) (Int.toNat (wr (σ (b + 11) 8))) x1) (b + 11) 8))) x2) (b + 11) 8))) x3) (b + 18) (Int.toNat (wr ((pm_up (pm_up (pm_up σ (b + 15) (Int.toNat (wr (σ (b + 11) 8))) x1) (b + 16) (Int.toNat (wr ((pm_up σ (b + 15) (Int.toNat (wr (σ (b + 11) 8))) x1) (b + 11) 8))) x2) (b + 17) (Int.toNat (wr ((pm_up (pm_up σ (b + 15) (Int.toNat (wr (σ (b + 11) 8))) x1) (b + 16) (Int.toNat (wr ((pm_up σ (b + 15) (Int.toNat (wr (σ (b + 11) 8))) x1) (b + 11) 8))) x2) (b + 11) 8))) x3) (b + 11) 8))) (-9)) (b + 19) (Int.toNat (wr ((pm_up (pm_up (pm_up (pm_up σ (b + 15) (Int.toNat (wr (σ (b + 11) 8))) x1) (b + 16) (Int.toNat (wr ((pm_up σ (b + 15) (Int.toNat (wr (σ (b + 11) 8))) x1) (b + 11) 8))) x2) (b + 17) (Int.toNat (wr ((pm_up (pm_up σ (b + 15) (Int.toNat (wr (σ (b + 11) 8))) x1) (b + 16) (Int.toNat (wr ((pm_up σ (b + 15) (Int.toNat (wr (σ (b + 11) 8))) x1) (b + 11) 8))) x2) (b + 11) 8))) x3) (b + 18) (Int.toNat (wr ((pm_up (pm_up (pm_up σ (b + 15) (Int.toNat (wr (σ (b + 11) 8))) x1) (b + 16) (Int.toNat (wr ((pm_up σ (b + 15) (Int.toNat (wr (σ (b + 11) 8))) x1) (b + 11) 8))) x2) (b + 17) (Int.toNat (wr ((pm_up (pm_up σ (b + 15) (Int.toNat (wr (σ (b + 11) 8))) x1) (b + 16) (Int.toNat (wr ((pm_up σ (b + 15) (Int.toNat (wr (σ (b + 11) 8))) x1) (b + 11) 8))) x2) (b + 11) 8))) x3) (b + 11) 8))) (-9)) (b + 11) 8))) 0) (b + 20) (Int.toNat (wr ((pm_up (pm_up (pm_up (pm_up (pm_up σ (b + 15) (Int.toNat (wr (σ (b + 11) 8))) x1) (b + 16) (Int.toNat (wr ((pm_up σ (b + 15) (Int.toNat (wr (σ (b + 11) 8))) x1) (b + 11) 8))) x2) (b + 17) (Int.toNat (wr ((pm_up (pm_up σ (b + 15) (Int.toNat (wr (σ (b + 11) 8))) x1) (b + 16) (Int.toNat (wr ((pm_up σ (b + 15) (Int.toNat (wr (σ (b + 11) 8))) x1) (b + 11) 8))) x2) (b + 11) 8))) x3) (b + 18) (Int.toNat (wr ((pm_up (pm_up (pm_up σ (b + 15) (Int.toNat (wr (σ (b + 11) 8))) x1) (b + 16) (Int.toNat (wr ((pm_up σ (b + 15) (Int.toNat (wr (σ (b + 11) 8))) x1) (b + 11) 8))) x2) (b + 17) (Int.toNat (wr ((pm_up (pm_up σ (b + 15) (Int.toNat (wr (σ (b + 11) 8))) x1) (b + 16) (Int.toNat (wr ((pm_up σ (b + 15) (Int.toNat (wr (σ (b + 11) 8))) x1) (b + 11) 8))) x2) (b + 11) 8))) x3) (b + 11) 8))) (-9)) (b + 19) (Int.toNat (wr ((pm_up (pm_up (pm_up (pm_up σ (b + 15) (Int.toNat (wr (σ (b + 11) 8))) x1) (b + 16) (Int.toNat (wr ((pm_up σ (b + 15) (Int.toNat (wr (σ (b + 11) 8))) x1) (b + 11) 8))) x2) (b + 17) (Int.toNat (wr ((pm_up (pm_up σ (b + 15) (Int.toNat (wr (σ (b + 11) 8))) x1) (b + 16) (Int.toNat (wr ((pm_up σ (b + 15) (Int.toNat (wr (σ (b + 11) 8))) x1) (b + 11) 8))) x2) (b + 11) 8))) x3) (b + 18) (Int.toNat (wr ((pm_up (pm_up (pm_up σ (b + 15) (Int.toNat (wr (σ (b + 11) 8))) x1) (b + 16) (Int.toNat (wr ((pm_up σ (b + 15) (Int.toNat (wr (σ (b + 11) 8))) x1) (b + 11) 8))) x2) (b + 17) (Int.toNat (wr ((pm_up (pm_up σ (b + 15) (Int.toNat (wr (σ (b + 11) 8))) x1) (b + 16) (Int.toNat (wr ((pm_up σ (b + 15) (Int.toNat (wr (σ (b + 11) 8))) x1) (b + 11) 8))) x2) (b + 11) 8))) x3) (b + 11) 8))) (-9)) (b + 11) 8))) 0) (b + 11) 8))) (-9)) (b + 11) 8))) (-9)) (b + 11) 8) + 1)))))))))
set_option maxHeartbeats 4000000 in
set_option maxRecDepth 100000 in
theorem tmX6_add {b : Nat} (hb : b = 15 ∨ b = 48) {x1 : Int} {x2 : Int} {x3 : Int} {σ : pm_M} {ρ : pm_M} (h : fX6_add b x1 x2 x3 σ = some ρ) : pm_C mX6_add 0 0 [pv_r (b + 11), pv_i x1, pv_i x2, pv_i x3] LAYC σ none LAYC ρ := by
  refine pm_C.of (by decide) rfl (Nat.le_of_ble_eq_true rfl) ?_
  show pm_J mX6_add 0 0 LAYC none LAYC ρ 0 [some (pv_r (b + 11)), some (pv_i x1), some (pv_i x2), some (pv_i x3)] [] LAYC σ
  unfold fX6_add at h
  refine pr_aload_n dX6_add_0 rfl ?_
  refine pr_getR dX6_add_1 lk_X6_18 (lw_11 hb) rfl ?_
  refine pr_aload_n dX6_add_4 rfl ?_
  refine pr_getI dX6_add_5 lk_X6_48 (lw_11 hb) rfl ?_
  refine pr_iload_n dX6_add_8 rfl ?_
  obtain ⟨g_1, h⟩ := pm_gs h
  refine pr_iast dX6_add_9 (lw_15 hb) rfl g_1 ?_
  refine pr_aload_n dX6_add_10 rfl ?_
  refine pr_getR dX6_add_11 lk_X6_22 (lw_11 hb) rfl ?_
  refine pr_aload_n dX6_add_14 rfl ?_
  refine pr_getI dX6_add_15 lk_X6_48 (lw_11 hb) rfl ?_
  refine pr_iload_n dX6_add_18 rfl ?_
  obtain ⟨g_2, h⟩ := pm_gs h
  refine pr_iast dX6_add_19 (lw_16 hb) rfl g_2 ?_
  refine pr_aload_n dX6_add_20 rfl ?_
  refine pr_getR dX6_add_21 lk_X6_25 (lw_11 hb) rfl ?_
  refine pr_aload_n dX6_add_24 rfl ?_
  refine pr_getI dX6_add_25 lk_X6_48 (lw_11 hb) rfl ?_
  refine pr_iload_n dX6_add_28 rfl ?_
  obtain ⟨g_3, h⟩ := pm_gs h
  refine pr_iast dX6_add_29 (lw_17 hb) rfl g_3 ?_
  refine pr_aload_n dX6_add_30 rfl ?_
  refine pr_getR dX6_add_31 lk_X6_28 (lw_11 hb) rfl ?_
  refine pr_aload_n dX6_add_34 rfl ?_
  refine pr_getI dX6_add_35 lk_X6_48 (lw_11 hb) rfl ?_
  refine pr_bipush dX6_add_38 (by decide) ?_
  obtain ⟨g_4, h⟩ := pm_gs h
  refine pr_iast dX6_add_40 (lw_18 hb) rfl g_4 ?_
  refine pr_aload_n dX6_add_41 rfl ?_
  refine pr_getR dX6_add_42 lk_X6_31 (lw_11 hb) rfl ?_
  refine pr_aload_n dX6_add_45 rfl ?_
  refine pr_getI dX6_add_46 lk_X6_48 (lw_11 hb) rfl ?_
  refine pr_iconst dX6_add_49 ?_
  obtain ⟨g_5, h⟩ := pm_gs h
  refine pr_iast dX6_add_50 (lw_19 hb) rfl g_5 ?_
  refine pr_aload_n dX6_add_51 rfl ?_
  refine pr_getR dX6_add_52 lk_X6_34 (lw_11 hb) rfl ?_
  refine pr_aload_n dX6_add_55 rfl ?_
  refine pr_getI dX6_add_56 lk_X6_48 (lw_11 hb) rfl ?_
  refine pr_bipush dX6_add_59 (by decide) ?_
  obtain ⟨g_6, h⟩ := pm_gs h
  refine pr_iast dX6_add_61 (lw_20 hb) rfl g_6 ?_
  refine pr_aload_n dX6_add_62 rfl ?_
  refine pr_getR dX6_add_63 lk_X6_37 (lw_11 hb) rfl ?_
  refine pr_aload_n dX6_add_66 rfl ?_
  refine pr_getI dX6_add_67 lk_X6_48 (lw_11 hb) rfl ?_
  refine pr_bipush dX6_add_70 (by decide) ?_
  obtain ⟨g_7, h⟩ := pm_gs h
  refine pr_iast dX6_add_72 (lw_21 hb) rfl g_7 ?_
  refine pr_aload_n dX6_add_73 rfl ?_
  refine pr_dup dX6_add_74 rfl ?_
  refine pr_getI dX6_add_75 lk_X6_48 (lw_11 hb) rfl ?_
  refine pr_iconst dX6_add_78 ?_
  refine pr_iadd dX6_add_79 ?_
  refine pr_putI dX6_add_80 lp_X6_48 (lw_11 hb) rfl ?_
  have h := Option.some.inj h
  subst h
  exact pr_vret dX6_add_83 rfl
def fX6_hanging (b : Nat) (σ : pm_M) : Option (Int) :=
  some ((σ (b + 11) 9) - (σ (b + 11) 10))
set_option maxHeartbeats 4000000 in
set_option maxRecDepth 100000 in
theorem tmX6_hanging {b : Nat} (hb : b = 15 ∨ b = 48) {σ : pm_M} {ρ : Int} (h : fX6_hanging b σ = some ρ) : pm_C mX6_hanging 0 0 [pv_r (b + 11)] LAYC σ (some (pv_i ρ)) LAYC σ := by
  refine pm_C.of (by decide) rfl (Nat.le_of_ble_eq_true rfl) ?_
  show pm_J mX6_hanging 0 0 LAYC (some (pv_i ρ)) LAYC σ 0 [some (pv_r (b + 11))] [] LAYC σ
  unfold fX6_hanging at h
  refine pr_aload_n dX6_hanging_0 rfl ?_
  refine pr_getI dX6_hanging_1 lk_X6_51 (lw_11 hb) rfl ?_
  refine pr_aload_n dX6_hanging_4 rfl ?_
  refine pr_getI dX6_hanging_5 lk_X6_54 (lw_11 hb) rfl ?_
  refine pr_isub dX6_hanging_8 ?_
  have h := Option.some.inj h
  subst h
  exact pr_iret dX6_hanging_9 rfl
def fX6_stateOf (b : Nat) (x1 : Int) (σ : pm_M) : Option (Int) :=
  pm_g (0 ≤ (wr x1) ∧ (wr x1) < 80) (if (wr (σ (b + 21) (Int.toNat (wr x1)))) = (-9) then (if (wr (σ (b + 11) 10)) ≤ (wr x1) then (if (wr (σ (b + 11) 9)) ≤ (wr x1) then (some 0) else (some 1)) else (some 2)) else (some 3))
set_option maxHeartbeats 4000000 in
set_option maxRecDepth 100000 in
theorem tmX6_stateOf {b : Nat} (hb : b = 15 ∨ b = 48) {x1 : Int} {σ : pm_M} {ρ : Int} (h : fX6_stateOf b x1 σ = some ρ) : pm_C mX6_stateOf 0 0 [pv_r (b + 11), pv_i x1] LAYC σ (some (pv_i ρ)) LAYC σ := by
  refine pm_C.of (by decide) rfl (Nat.le_of_ble_eq_true rfl) ?_
  show pm_J mX6_stateOf 0 0 LAYC (some (pv_i ρ)) LAYC σ 0 [some (pv_r (b + 11)), some (pv_i x1)] [] LAYC σ
  unfold fX6_stateOf at h
  refine pr_aload_n dX6_stateOf_0 rfl ?_
  refine pr_getR dX6_stateOf_1 lk_X6_37 (lw_11 hb) rfl ?_
  refine pr_iload_n dX6_stateOf_4 rfl ?_
  obtain ⟨g_1, h⟩ := pm_gs h
  refine pr_iald dX6_stateOf_5 (lw_21 hb) rfl g_1 ?_
  refine pr_bipush dX6_stateOf_6 (by decide) ?_
  refine pr_icmp_eq (tgt := 13) dX6_stateOf_8 rfl (wr_eq (by decide) (by decide)) (by decide) (fun c_2 => ?_) (fun c_2 => ?_)
  · have h := pm_pos c_2 h
    refine pr_iload_n dX6_stateOf_13 rfl ?_
    refine pr_aload_n dX6_stateOf_14 rfl ?_
    refine pr_getI dX6_stateOf_15 lk_X6_54 (lw_11 hb) rfl ?_
    refine pr_icmp_ge (tgt := 23) dX6_stateOf_18 rfl rfl (by decide) (fun c_3 => ?_) (fun c_3 => ?_)
    · have h := pm_pos c_3 h
      refine pr_iload_n dX6_stateOf_23 rfl ?_
      refine pr_aload_n dX6_stateOf_24 rfl ?_
      refine pr_getI dX6_stateOf_25 lk_X6_51 (lw_11 hb) rfl ?_
      refine pr_icmp_ge (tgt := 35) dX6_stateOf_28 rfl rfl (by decide) (fun c_4 => ?_) (fun c_4 => ?_)
      · have h := pm_pos c_4 h
        refine pr_iconst dX6_stateOf_35 ?_
        have h := Option.some.inj h
        subst h
        exact pr_iret dX6_stateOf_36 rfl
      · have h := pm_ng c_4 h
        refine pr_iconst dX6_stateOf_31 ?_
        refine pr_goto (tgt := 36) dX6_stateOf_32 (by decide) ?_
        have h := Option.some.inj h
        subst h
        exact pr_iret dX6_stateOf_36 rfl
    · have h := pm_ng c_3 h
      refine pr_iconst dX6_stateOf_21 ?_
      have h := Option.some.inj h
      subst h
      exact pr_iret dX6_stateOf_22 rfl
  · have h := pm_ng c_2 h
    refine pr_iconst dX6_stateOf_11 ?_
    have h := Option.some.inj h
    subst h
    exact pr_iret dX6_stateOf_12 rfl
def bdX6_hangWet_0 (b : Nat) (y1 : Int) (σ : pm_M) : Option ((pm_M) ⊕ (pm_M)) :=
  if (wr (σ (b + 11) 8)) ≤ (wr (σ (b + 11) 9)) then (some (.inl σ)) else ((fX6_hanging b σ).bind fun q2 => if (wr (σ (b + 11) 11)) ≤ (wr q2) then (some (.inl σ)) else (pm_g (0 ≤ (wr (σ (b + 11) 9)) ∧ (wr (σ (b + 11) 9)) < 80) (some (.inr (pm_up (pm_up σ (b + 18) (Int.toNat (wr (σ (b + 11) 9))) y1) (b + 11) 9 (((pm_up σ (b + 18) (Int.toNat (wr (σ (b + 11) 9))) y1) (b + 11) 9) + 1))))))
set_option maxHeartbeats 4000000 in
set_option maxRecDepth 100000 in
theorem tbX6_hangWet_0 {lay0 lay' : List pm_S} {r : Option pm_V} {σ' : pm_M} {b : Nat} (hb : b = 15 ∨ b = 48) (y1 : Int) : ∀ (a : pm_M) (e : (pm_M) ⊕ (pm_M)), (fun a => bdX6_hangWet_0 b y1 a) a = some e → (∀ a, e = .inr a → (fun a => pm_J mX6_hangWet 1 20 lay0 r lay' σ' 0 [some (pv_r (b + 11)), some (pv_i y1)] [] LAYC a) a) → (∀ a, e = .inl a → (fun a => pm_J mX6_hangWet 1 20 lay0 r lay' σ' 45 [none, none] [] LAYC a) a) → (fun a => pm_J mX6_hangWet 1 20 lay0 r lay' σ' 0 [some (pv_r (b + 11)), some (pv_i y1)] [] LAYC a) a := by
  intro σ e h hc hx
  have h : bdX6_hangWet_0 b y1 σ = some e := h
  unfold bdX6_hangWet_0 at h
  show pm_J mX6_hangWet 1 20 lay0 r lay' σ' 0 [some (pv_r (b + 11)), some (pv_i y1)] [] LAYC σ
  refine pr_aload_n dX6_hangWet_0 rfl ?_
  refine pr_getI dX6_hangWet_1 lk_X6_51 (lw_11 hb) rfl ?_
  refine pr_aload_n dX6_hangWet_4 rfl ?_
  refine pr_getI dX6_hangWet_5 lk_X6_48 (lw_11 hb) rfl ?_
  refine pr_icmp_ge (tgt := 45) dX6_hangWet_8 rfl rfl (by decide) (fun c_1 => ?_) (fun c_1 => ?_)
  · have h := pm_pos c_1 h
    refine pr_weak (L2 := [none, none]) ⟨Or.inl rfl, Or.inl rfl, trivial⟩ ?_
    exact hx σ (Option.some.inj h).symm
  · have h := pm_ng c_1 h
    refine pr_aload_n dX6_hangWet_11 rfl ?_
    obtain ⟨q2, e3, h⟩ := pm_bs h
    refine pr_callV (As := []) (S := []) (t := (b + 11)) dX6_hangWet_12 mk_X6_57 (lw_11 hb) (ci := 6) (q := (RX6, TX6, 12)) rfl rfl rfl rfl (Nat.le_of_ble_eq_true rfl) (by decide) (by decide) (Or.inl rfl) (tmX6_hanging hb e3) ?_
    refine pr_aload_n dX6_hangWet_15 rfl ?_
    refine pr_getI dX6_hangWet_16 lk_X6_40 (lw_11 hb) rfl ?_
    refine pr_icmp_ge (tgt := 45) dX6_hangWet_19 rfl rfl (by decide) (fun c_4 => ?_) (fun c_4 => ?_)
    · have h := pm_pos c_4 h
      refine pr_weak (L2 := [none, none]) ⟨Or.inl rfl, Or.inl rfl, trivial⟩ ?_
      exact hx σ (Option.some.inj h).symm
    · have h := pm_ng c_4 h
      refine pr_aload_n dX6_hangWet_22 rfl ?_
      refine pr_getR dX6_hangWet_23 lk_X6_28 (lw_11 hb) rfl ?_
      refine pr_aload_n dX6_hangWet_26 rfl ?_
      refine pr_getI dX6_hangWet_27 lk_X6_51 (lw_11 hb) rfl ?_
      refine pr_iload_n dX6_hangWet_30 rfl ?_
      obtain ⟨g_5, h⟩ := pm_gs h
      refine pr_iast dX6_hangWet_31 (lw_18 hb) rfl g_5 ?_
      refine pr_aload_n dX6_hangWet_32 rfl ?_
      refine pr_dup dX6_hangWet_33 rfl ?_
      refine pr_getI dX6_hangWet_34 lk_X6_51 (lw_11 hb) rfl ?_
      refine pr_iconst dX6_hangWet_37 ?_
      refine pr_iadd dX6_hangWet_38 ?_
      refine pr_putI dX6_hangWet_39 lp_X6_51 (lw_11 hb) rfl ?_
      refine pr_goto (tgt := 0) dX6_hangWet_42 (by decide) ?_
      refine pr_weak (L2 := [some (pv_r (b + 11)), some (pv_i y1)]) ⟨Or.inr rfl, Or.inr rfl, trivial⟩ ?_
      exact hc (pm_up (pm_up σ (b + 18) (Int.toNat (wr (σ (b + 11) 9))) y1) (b + 11) 9 (((pm_up σ (b + 18) (Int.toNat (wr (σ (b + 11) 9))) y1) (b + 11) 9) + 1)) (Option.some.inj h).symm
def fX6_hangWet (b : Nat) (x1 : Int) (σ : pm_M) : Option (pm_M) :=
  (pm_it (fun a => bdX6_hangWet_0 b x1 a) pm_fuel σ).bind fun v6 => some v6
set_option maxHeartbeats 4000000 in
set_option maxRecDepth 100000 in
theorem tmX6_hangWet {b : Nat} (hb : b = 15 ∨ b = 48) {x1 : Int} {σ : pm_M} {ρ : pm_M} (h : fX6_hangWet b x1 σ = some ρ) : pm_C mX6_hangWet 1 20 [pv_r (b + 11), pv_i x1] LAYC σ none LAYC ρ := by
  refine pm_C.of (by decide) rfl (Nat.le_of_ble_eq_true rfl) ?_
  show pm_J mX6_hangWet 1 20 LAYC none LAYC ρ 0 [some (pv_r (b + 11)), some (pv_i x1)] [] LAYC σ
  unfold fX6_hangWet at h
  obtain ⟨v6, e7, h⟩ := pm_bs h
  refine pr_weak (L2 := [some (pv_r (b + 11)), some (pv_i x1)]) ⟨Or.inr rfl, Or.inr rfl, trivial⟩ ?_
  refine pm_it_J (α := pm_M) (β := pm_M) (f := fun a => bdX6_hangWet_0 b x1 a) (P := fun a => pm_J mX6_hangWet 1 20 LAYC none LAYC ρ 0 [some (pv_r (b + 11)), some (pv_i x1)] [] LAYC a) (Rx := fun a => pm_J mX6_hangWet 1 20 LAYC none LAYC ρ 45 [none, none] [] LAYC a) (tbX6_hangWet_0 hb x1) pm_fuel σ v6 e7 ?_
  show pm_J mX6_hangWet 1 20 LAYC none LAYC ρ 45 [none, none] [] LAYC v6
  have h := Option.some.inj h
  subst h
  exact pr_vret dX6_hangWet_45 rfl
def bdX6_dryHanging_5 (b : Nat) (y1 : Int) (y2 : Int) (z3 : Int) (σ : pm_M) : Option ((Int × pm_M) ⊕ (Int × pm_M)) :=
  if (wr (σ (b + 11) 9)) ≤ (wr z3) then (some (.inl (z3, σ))) else (pm_g (0 ≤ (wr z3) ∧ (wr z3) < 80) (pm_g (0 ≤ (wr z3) ∧ (wr z3) < 80) (pm_g (0 ≤ (wr z3) ∧ (wr z3) < 80) (if (wr ((pm_up σ (b + 19) (Int.toNat (wr z3)) ((σ (b + 19) (Int.toNat (wr z3))) + y1)) (b + 19) (Int.toNat (wr z3)))) < 40 then (some (.inr ((z3 + 1), (pm_up σ (b + 19) (Int.toNat (wr z3)) ((σ (b + 19) (Int.toNat (wr z3))) + y1))))) else (pm_g (0 ≤ (wr z3) ∧ (wr z3) < 80) (some (.inr ((z3 + 1), (pm_up (pm_up (pm_up σ (b + 19) (Int.toNat (wr z3)) ((σ (b + 19) (Int.toNat (wr z3))) + y1)) (b + 20) (Int.toNat (wr z3)) y2) (b + 11) 10 (((pm_up (pm_up σ (b + 19) (Int.toNat (wr z3)) ((σ (b + 19) (Int.toNat (wr z3))) + y1)) (b + 20) (Int.toNat (wr z3)) y2) (b + 11) 10) + 1))))))))))
set_option maxHeartbeats 4000000 in
set_option maxRecDepth 100000 in
theorem tbX6_dryHanging_5 {lay0 lay' : List pm_S} {r : Option pm_V} {σ' : pm_M} {b : Nat} (hb : b = 15 ∨ b = 48) (y1 : Int) (y2 : Int) : ∀ (a : Int × pm_M) (e : (Int × pm_M) ⊕ (Int × pm_M)), (fun a => bdX6_dryHanging_5 b y1 y2 a.1 a.2) a = some e → (∀ a, e = .inr a → (fun a => pm_J mX6_dryHanging 0 0 lay0 r lay' σ' 5 [some (pv_r (b + 11)), some (pv_i y1), some (pv_i y2), some (pv_i a.1)] [] LAYC a.2) a) → (∀ a, e = .inl a → (fun a => pm_J mX6_dryHanging 0 0 lay0 r lay' σ' 57 [none, none, none, none] [] LAYC a.2) a) → (fun a => pm_J mX6_dryHanging 0 0 lay0 r lay' σ' 5 [some (pv_r (b + 11)), some (pv_i y1), some (pv_i y2), some (pv_i a.1)] [] LAYC a.2) a := by
  intro a e h hc hx
  obtain ⟨z3, σ⟩ := a
  have h : bdX6_dryHanging_5 b y1 y2 z3 σ = some e := h
  unfold bdX6_dryHanging_5 at h
  show pm_J mX6_dryHanging 0 0 lay0 r lay' σ' 5 [some (pv_r (b + 11)), some (pv_i y1), some (pv_i y2), some (pv_i z3)] [] LAYC σ
  refine pr_iload_n dX6_dryHanging_5 rfl ?_
  refine pr_aload_n dX6_dryHanging_6 rfl ?_
  refine pr_getI dX6_dryHanging_7 lk_X6_51 (lw_11 hb) rfl ?_
  refine pr_icmp_ge (tgt := 57) dX6_dryHanging_10 rfl rfl (by decide) (fun c_1 => ?_) (fun c_1 => ?_)
  · have h := pm_pos c_1 h
    refine pr_weak (L2 := [none, none, none, none]) ⟨Or.inl rfl, Or.inl rfl, Or.inl rfl, Or.inl rfl, trivial⟩ ?_
    exact hx (z3, σ) (Option.some.inj h).symm
  · have h := pm_ng c_1 h
    refine pr_aload_n dX6_dryHanging_13 rfl ?_
    refine pr_getR dX6_dryHanging_14 lk_X6_31 (lw_11 hb) rfl ?_
    refine pr_iload_n dX6_dryHanging_17 rfl ?_
    refine pr_dup2 dX6_dryHanging_18 rfl rfl ?_
    obtain ⟨g_2, h⟩ := pm_gs h
    refine pr_iald dX6_dryHanging_19 (lw_19 hb) rfl g_2 ?_
    refine pr_iload_n dX6_dryHanging_20 rfl ?_
    refine pr_iadd dX6_dryHanging_21 ?_
    obtain ⟨g_3, h⟩ := pm_gs h
    refine pr_iast dX6_dryHanging_22 (lw_19 hb) rfl g_3 ?_
    refine pr_aload_n dX6_dryHanging_23 rfl ?_
    refine pr_getR dX6_dryHanging_24 lk_X6_31 (lw_11 hb) rfl ?_
    refine pr_iload_n dX6_dryHanging_27 rfl ?_
    obtain ⟨g_4, h⟩ := pm_gs h
    refine pr_iald dX6_dryHanging_28 (lw_19 hb) rfl g_4 ?_
    refine pr_bipush dX6_dryHanging_29 (by decide) ?_
    refine pr_icmp_lt (tgt := 51) dX6_dryHanging_31 rfl (wr_eq (by decide) (by decide)) (by decide) (fun c_5 => ?_) (fun c_5 => ?_)
    · have h := pm_pos c_5 h
      refine pr_iinc dX6_dryHanging_51 rfl (by decide) rfl ?_
      refine pr_goto (tgt := 5) dX6_dryHanging_54 (by decide) ?_
      refine pr_weak (L2 := [some (pv_r (b + 11)), some (pv_i y1), some (pv_i y2), some (pv_i (z3 + 1))]) ⟨Or.inr rfl, Or.inr rfl, Or.inr rfl, Or.inr rfl, trivial⟩ ?_
      exact hc ((z3 + 1), (pm_up σ (b + 19) (Int.toNat (wr z3)) ((σ (b + 19) (Int.toNat (wr z3))) + y1))) (Option.some.inj h).symm
    · have h := pm_ng c_5 h
      refine pr_aload_n dX6_dryHanging_34 rfl ?_
      refine pr_getR dX6_dryHanging_35 lk_X6_34 (lw_11 hb) rfl ?_
      refine pr_iload_n dX6_dryHanging_38 rfl ?_
      refine pr_iload_n dX6_dryHanging_39 rfl ?_
      obtain ⟨g_6, h⟩ := pm_gs h
      refine pr_iast dX6_dryHanging_40 (lw_20 hb) rfl g_6 ?_
      refine pr_aload_n dX6_dryHanging_41 rfl ?_
      refine pr_dup dX6_dryHanging_42 rfl ?_
      refine pr_getI dX6_dryHanging_43 lk_X6_54 (lw_11 hb) rfl ?_
      refine pr_iconst dX6_dryHanging_46 ?_
      refine pr_iadd dX6_dryHanging_47 ?_
      refine pr_putI dX6_dryHanging_48 lp_X6_54 (lw_11 hb) rfl ?_
      refine pr_iinc dX6_dryHanging_51 rfl (by decide) rfl ?_
      refine pr_goto (tgt := 5) dX6_dryHanging_54 (by decide) ?_
      refine pr_weak (L2 := [some (pv_r (b + 11)), some (pv_i y1), some (pv_i y2), some (pv_i (z3 + 1))]) ⟨Or.inr rfl, Or.inr rfl, Or.inr rfl, Or.inr rfl, trivial⟩ ?_
      exact hc ((z3 + 1), (pm_up (pm_up (pm_up σ (b + 19) (Int.toNat (wr z3)) ((σ (b + 19) (Int.toNat (wr z3))) + y1)) (b + 20) (Int.toNat (wr z3)) y2) (b + 11) 10 (((pm_up (pm_up σ (b + 19) (Int.toNat (wr z3)) ((σ (b + 19) (Int.toNat (wr z3))) + y1)) (b + 20) (Int.toNat (wr z3)) y2) (b + 11) 10) + 1))) (Option.some.inj h).symm
def fX6_dryHanging (b : Nat) (x1 : Int) (x2 : Int) (σ : pm_M) : Option (pm_M) :=
  (pm_it (fun a => bdX6_dryHanging_5 b x1 x2 a.1 a.2) pm_fuel ((σ (b + 11) 10), σ)).bind fun v7 => some v7.2
set_option maxHeartbeats 4000000 in
set_option maxRecDepth 100000 in
theorem tmX6_dryHanging {b : Nat} (hb : b = 15 ∨ b = 48) {x1 : Int} {x2 : Int} {σ : pm_M} {ρ : pm_M} (h : fX6_dryHanging b x1 x2 σ = some ρ) : pm_C mX6_dryHanging 0 0 [pv_r (b + 11), pv_i x1, pv_i x2] LAYC σ none LAYC ρ := by
  refine pm_C.of (by decide) rfl (Nat.le_of_ble_eq_true rfl) ?_
  show pm_J mX6_dryHanging 0 0 LAYC none LAYC ρ 0 [some (pv_r (b + 11)), some (pv_i x1), some (pv_i x2), none] [] LAYC σ
  unfold fX6_dryHanging at h
  refine pr_aload_n dX6_dryHanging_0 rfl ?_
  refine pr_getI dX6_dryHanging_1 lk_X6_54 (lw_11 hb) rfl ?_
  refine pr_istore_n dX6_dryHanging_4 (by decide) rfl ?_
  obtain ⟨v7, e8, h⟩ := pm_bs h
  refine pr_weak (L2 := [some (pv_r (b + 11)), some (pv_i x1), some (pv_i x2), some (pv_i (σ (b + 11) 10))]) ⟨Or.inr rfl, Or.inr rfl, Or.inr rfl, Or.inr rfl, trivial⟩ ?_
  refine pm_it_J (α := Int × pm_M) (β := Int × pm_M) (f := fun a => bdX6_dryHanging_5 b x1 x2 a.1 a.2) (P := fun a => pm_J mX6_dryHanging 0 0 LAYC none LAYC ρ 5 [some (pv_r (b + 11)), some (pv_i x1), some (pv_i x2), some (pv_i a.1)] [] LAYC a.2) (Rx := fun a => pm_J mX6_dryHanging 0 0 LAYC none LAYC ρ 57 [none, none, none, none] [] LAYC a.2) (tbX6_dryHanging_5 hb x1 x2) pm_fuel ((σ (b + 11) 10), σ) v7 e8 ?_
  show pm_J mX6_dryHanging 0 0 LAYC none LAYC ρ 57 [none, none, none, none] [] LAYC v7.2
  have h := Option.some.inj h
  subst h
  exact pr_vret dX6_dryHanging_57 rfl
