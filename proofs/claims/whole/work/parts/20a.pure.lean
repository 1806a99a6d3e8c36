def fJ6_compare_7cf53 (x0 : Int) (x1 : Int) : Option (Int) :=
  if (wr x1) ≤ (wr x0) then (if (wr x0) = (wr x1) then (some 0) else (some 1)) else (some (-1))
set_option maxHeartbeats 4000000 in
set_option maxRecDepth 100000 in
theorem tmJ6_compare_7cf53 {lay : List pm_S} {x0 : Int} {x1 : Int} {σ : pm_M} {ρ : Int} (h : fJ6_compare_7cf53 x0 x1 = some ρ) : pm_C mJ6_compare_7cf53 0 0 [pv_i x0, pv_i x1] lay σ (some (pv_i ρ)) lay σ := by
  refine pm_C.of (by decide) rfl (Nat.le_of_ble_eq_true rfl) ?_
  show pm_J mJ6_compare_7cf53 0 0 lay (some (pv_i ρ)) lay σ 0 [some (pv_i x0), some (pv_i x1)] [] lay σ
  unfold fJ6_compare_7cf53 at h
  refine pr_iload_n dJ6_compare_7cf53_0 rfl ?_
  refine pr_iload_n dJ6_compare_7cf53_1 rfl ?_
  refine pr_icmp_ge (tgt := 9) dJ6_compare_7cf53_2 rfl rfl (by decide) (fun c_1 => ?_) (fun c_1 => ?_)
  · have h := pm_pos c_1 h
    refine pr_iload_n dJ6_compare_7cf53_9 rfl ?_
    refine pr_iload_n dJ6_compare_7cf53_10 rfl ?_
    refine pr_icmp_ne (tgt := 18) dJ6_compare_7cf53_11 rfl rfl (by decide) (fun c_2 => ?_) (fun c_2 => ?_)
    · have h := pm_ng c_2 h
      refine pr_iconst dJ6_compare_7cf53_18 ?_
      have h := Option.some.inj h
      subst h
      exact pr_iret dJ6_compare_7cf53_19 rfl
    · have h := pm_pos c_2 h
      refine pr_iconst dJ6_compare_7cf53_14 ?_
      refine pr_goto (tgt := 19) dJ6_compare_7cf53_15 (by decide) ?_
      have h := Option.some.inj h
      subst h
      exact pr_iret dJ6_compare_7cf53_19 rfl
  · have h := pm_ng c_1 h
    refine pr_iconst dJ6_compare_7cf53_5 ?_
    refine pr_goto (tgt := 19) dJ6_compare_7cf53_6 (by decide) ?_
    have h := Option.some.inj h
    subst h
    exact pr_iret dJ6_compare_7cf53_19 rfl
def fJ6_bitCount_0f7a4 (x0 : Int) : Option (Int) :=
  some (pm_and (((pm_and (((pm_and (x0 - (pm_and (pm_ushr x0 1) 1431655765)) 858993459) + (pm_and (pm_ushr (x0 - (pm_and (pm_ushr x0 1) 1431655765)) 2) 858993459)) + (pm_ushr ((pm_and (x0 - (pm_and (pm_ushr x0 1) 1431655765)) 858993459) + (pm_and (pm_ushr (x0 - (pm_and (pm_ushr x0 1) 1431655765)) 2) 858993459)) 4)) 252645135) + (pm_ushr (pm_and (((pm_and (x0 - (pm_and (pm_ushr x0 1) 1431655765)) 858993459) + (pm_and (pm_ushr (x0 - (pm_and (pm_ushr x0 1) 1431655765)) 2) 858993459)) + (pm_ushr ((pm_and (x0 - (pm_and (pm_ushr x0 1) 1431655765)) 858993459) + (pm_and (pm_ushr (x0 - (pm_and (pm_ushr x0 1) 1431655765)) 2) 858993459)) 4)) 252645135) 8)) + (pm_ushr ((pm_and (((pm_and (x0 - (pm_and (pm_ushr x0 1) 1431655765)) 858993459) + (pm_and (pm_ushr (x0 - (pm_and (pm_ushr x0 1) 1431655765)) 2) 858993459)) + (pm_ushr ((pm_and (x0 - (pm_and (pm_ushr x0 1) 1431655765)) 858993459) + (pm_and (pm_ushr (x0 - (pm_and (pm_ushr x0 1) 1431655765)) 2) 858993459)) 4)) 252645135) + (pm_ushr (pm_and (((pm_and (x0 - (pm_and (pm_ushr x0 1) 1431655765)) 858993459) + (pm_and (pm_ushr (x0 - (pm_and (pm_ushr x0 1) 1431655765)) 2) 858993459)) + (pm_ushr ((pm_and (x0 - (pm_and (pm_ushr x0 1) 1431655765)) 858993459) + (pm_and (pm_ushr (x0 - (pm_and (pm_ushr x0 1) 1431655765)) 2) 858993459)) 4)) 252645135) 8)) 16)) 63)
set_option maxHeartbeats 4000000 in
set_option maxRecDepth 100000 in
theorem tmJ6_bitCount_0f7a4 {lay : List pm_S} {x0 : Int} {σ : pm_M} {ρ : Int} (h : fJ6_bitCount_0f7a4 x0 = some ρ) : pm_C mJ6_bitCount_0f7a4 0 0 [pv_i x0] lay σ (some (pv_i ρ)) lay σ := by
  refine pm_C.of (by decide) rfl (Nat.le_of_ble_eq_true rfl) ?_
  show pm_J mJ6_bitCount_0f7a4 0 0 lay (some (pv_i ρ)) lay σ 0 [some (pv_i x0)] [] lay σ
  unfold fJ6_bitCount_0f7a4 at h
  refine pr_iload_n dJ6_bitCount_0f7a4_0 rfl ?_
  refine pr_iload_n dJ6_bitCount_0f7a4_1 rfl ?_
  refine pr_iconst dJ6_bitCount_0f7a4_2 ?_
  refine pr_iushr dJ6_bitCount_0f7a4_3 ?_
  refine pr_ldcw dJ6_bitCount_0f7a4_4 lkc_J6_265 ?_
  refine pr_iand dJ6_bitCount_0f7a4_7 ?_
  refine pr_isub dJ6_bitCount_0f7a4_8 ?_
  refine pr_istore_n dJ6_bitCount_0f7a4_9 (by decide) rfl ?_
  refine pr_iload_n dJ6_bitCount_0f7a4_10 rfl ?_
  refine pr_ldcw dJ6_bitCount_0f7a4_11 lkc_J6_266 ?_
  refine pr_iand dJ6_bitCount_0f7a4_14 ?_
  refine pr_iload_n dJ6_bitCount_0f7a4_15 rfl ?_
  refine pr_iconst dJ6_bitCount_0f7a4_16 ?_
  refine pr_iushr dJ6_bitCount_0f7a4_17 ?_
  refine pr_ldcw dJ6_bitCount_0f7a4_18 lkc_J6_266 ?_
  refine pr_iand dJ6_bitCount_0f7a4_21 ?_
  refine pr_iadd dJ6_bitCount_0f7a4_22 ?_
  refine pr_istore_n dJ6_bitCount_0f7a4_23 (by decide) rfl ?_
  refine pr_iload_n dJ6_bitCount_0f7a4_24 rfl ?_
  refine pr_iload_n dJ6_bitCount_0f7a4_25 rfl ?_
  refine pr_iconst dJ6_bitCount_0f7a4_26 ?_
  refine pr_iushr dJ6_bitCount_0f7a4_27 ?_
  refine pr_iadd dJ6_bitCount_0f7a4_28 ?_
  refine pr_ldcw dJ6_bitCount_0f7a4_29 lkc_J6_267 ?_
  refine pr_iand dJ6_bitCount_0f7a4_32 ?_
  refine pr_istore_n dJ6_bitCount_0f7a4_33 (by decide) rfl ?_
  refine pr_iload_n dJ6_bitCount_0f7a4_34 rfl ?_
  refine pr_iload_n dJ6_bitCount_0f7a4_35 rfl ?_
  refine pr_bipush dJ6_bitCount_0f7a4_36 (by decide) ?_
  refine pr_iushr dJ6_bitCount_0f7a4_38 ?_
  refine pr_iadd dJ6_bitCount_0f7a4_39 ?_
  refine pr_istore_n dJ6_bitCount_0f7a4_40 (by decide) rfl ?_
  refine pr_iload_n dJ6_bitCount_0f7a4_41 rfl ?_
  refine pr_iload_n dJ6_bitCount_0f7a4_42 rfl ?_
  refine pr_bipush dJ6_bitCount_0f7a4_43 (by decide) ?_
  refine pr_iushr dJ6_bitCount_0f7a4_45 ?_
  refine pr_iadd dJ6_bitCount_0f7a4_46 ?_
  refine pr_istore_n dJ6_bitCount_0f7a4_47 (by decide) rfl ?_
  refine pr_iload_n dJ6_bitCount_0f7a4_48 rfl ?_
  refine pr_bipush dJ6_bitCount_0f7a4_49 (by decide) ?_
  refine pr_iand dJ6_bitCount_0f7a4_51 ?_
  have h := Option.some.inj h
  subst h
  exact pr_iret dJ6_bitCount_0f7a4_52 rfl
def fX11_isNumber (x0 : Int) (x1 : Int) : Option (Int) :=
  if (wr x0) < 0 then (some 0) else (if (wr x1) ≤ (wr x0) then (some 0) else (some 1))
set_option maxHeartbeats 4000000 in
set_option maxRecDepth 100000 in
theorem tmX11_isNumber {lay : List pm_S} {x0 : Int} {x1 : Int} {σ : pm_M} {ρ : Int} (h : fX11_isNumber x0 x1 = some ρ) : pm_C mX11_isNumber 0 0 [pv_i x0, pv_i x1] lay σ (some (pv_i ρ)) lay σ := by
  refine pm_C.of (by decide) rfl (Nat.le_of_ble_eq_true rfl) ?_
  show pm_J mX11_isNumber 0 0 lay (some (pv_i ρ)) lay σ 0 [some (pv_i x0), some (pv_i x1)] [] lay σ
  unfold fX11_isNumber at h
  refine pr_iload_n dX11_isNumber_0 rfl ?_
  refine pr_if_lt (tgt := 13) dX11_isNumber_1 rfl (by decide) (fun c_1 => ?_) (fun c_1 => ?_)
  · have h := pm_pos c_1 h
    refine pr_iconst dX11_isNumber_13 ?_
    have h := Option.some.inj h
    subst h
    exact pr_zret dX11_isNumber_14 rfl (Or.inl rfl)
  · have h := pm_ng c_1 h
    refine pr_iload_n dX11_isNumber_4 rfl ?_
    refine pr_iload_n dX11_isNumber_5 rfl ?_
    refine pr_icmp_ge (tgt := 13) dX11_isNumber_6 rfl rfl (by decide) (fun c_2 => ?_) (fun c_2 => ?_)
    · have h := pm_pos c_2 h
      refine pr_iconst dX11_isNumber_13 ?_
      have h := Option.some.inj h
      subst h
      exact pr_zret dX11_isNumber_14 rfl (Or.inl rfl)
    · have h := pm_ng c_2 h
      refine pr_iconst dX11_isNumber_9 ?_
      refine pr_goto (tgt := 14) dX11_isNumber_10 (by decide) ?_
      have h := Option.some.inj h
      subst h
      exact pr_zret dX11_isNumber_14 rfl (Or.inr rfl)
def fX11_isWeight (x0 : Int) : Option (Int) :=
  if (wr x0) < 1 then (some 0) else (if 8 < (wr x0) then (some 0) else (some 1))
set_option maxHeartbeats 4000000 in
set_option maxRecDepth 100000 in
theorem tmX11_isWeight {lay : List pm_S} {x0 : Int} {σ : pm_M} {ρ : Int} (h : fX11_isWeight x0 = some ρ) : pm_C mX11_isWeight 0 0 [pv_i x0] lay σ (some (pv_i ρ)) lay σ := by
  refine pm_C.of (by decide) rfl (Nat.le_of_ble_eq_true rfl) ?_
  show pm_J mX11_isWeight 0 0 lay (some (pv_i ρ)) lay σ 0 [some (pv_i x0)] [] lay σ
  unfold fX11_isWeight at h
  refine pr_iload_n dX11_isWeight_0 rfl ?_
  refine pr_iconst dX11_isWeight_1 ?_
  refine pr_icmp_lt (tgt := 15) dX11_isWeight_2 rfl (wr_eq (by decide) (by decide)) (by decide) (fun c_1 => ?_) (fun c_1 => ?_)
  · have h := pm_pos c_1 h
    refine pr_iconst dX11_isWeight_15 ?_
    have h := Option.some.inj h
    subst h
    exact pr_zret dX11_isWeight_16 rfl (Or.inl rfl)
  · have h := pm_ng c_1 h
    refine pr_iload_n dX11_isWeight_5 rfl ?_
    refine pr_bipush dX11_isWeight_6 (by decide) ?_
    refine pr_icmp_gt (tgt := 15) dX11_isWeight_8 rfl (wr_eq (by decide) (by decide)) (by decide) (fun c_2 => ?_) (fun c_2 => ?_)
    · have h := pm_pos c_2 h
      refine pr_iconst dX11_isWeight_15 ?_
      have h := Option.some.inj h
      subst h
      exact pr_zret dX11_isWeight_16 rfl (Or.inl rfl)
    · have h := pm_ng c_2 h
      refine pr_iconst dX11_isWeight_11 ?_
      refine pr_goto (tgt := 16) dX11_isWeight_12 (by decide) ?_
      have h := Option.some.inj h
      subst h
      exact pr_zret dX11_isWeight_16 rfl (Or.inr rfl)
def fX11_shelfOf (x0 : Int) (x1 : Int) : Option (Int) :=
  some ((x0 * 9) + x1)
set_option maxHeartbeats 4000000 in
set_option maxRecDepth 100000 in
theorem tmX11_shelfOf {lay : List pm_S} {x0 : Int} {x1 : Int} {σ : pm_M} {ρ : Int} (h : fX11_shelfOf x0 x1 = some ρ) : pm_C mX11_shelfOf 0 0 [pv_i x0, pv_i x1] lay σ (some (pv_i ρ)) lay σ := by
  refine pm_C.of (by decide) rfl (Nat.le_of_ble_eq_true rfl) ?_
  show pm_J mX11_shelfOf 0 0 lay (some (pv_i ρ)) lay σ 0 [some (pv_i x0), some (pv_i x1)] [] lay σ
  unfold fX11_shelfOf at h
  refine pr_iload_n dX11_shelfOf_0 rfl ?_
  refine pr_bipush dX11_shelfOf_1 (by decide) ?_
  refine pr_imul dX11_shelfOf_3 ?_
  refine pr_iload_n dX11_shelfOf_4 rfl ?_
  refine pr_iadd dX11_shelfOf_5 ?_
  have h := Option.some.inj h
  subst h
  exact pr_iret dX11_shelfOf_6 rfl
def fX9_between (x0 : Int) (x1 : Int) (x2 : Int) : Option (Int) :=
  if (wr x0) = (-1) then (if (wr x1) = (-1) then (some x2) else (some x1)) else (if (wr x1) = (-1) then (some x0) else (some (Int.tdiv (wr (x0 + x1)) 2)))
set_option maxHeartbeats 4000000 in
set_option maxRecDepth 100000 in
theorem tmX9_between {lay : List pm_S} {x0 : Int} {x1 : Int} {x2 : Int} {σ : pm_M} {ρ : Int} (h : fX9_between x0 x1 x2 = some ρ) : pm_C mX9_between 0 0 [pv_i x0, pv_i x1, pv_i x2] lay σ (some (pv_i ρ)) lay σ := by
  refine pm_C.of (by decide) rfl (Nat.le_of_ble_eq_true rfl) ?_
  show pm_J mX9_between 0 0 lay (some (pv_i ρ)) lay σ 0 [some (pv_i x0), some (pv_i x1), some (pv_i x2)] [] lay σ
  unfold fX9_between at h
  refine pr_iload_n dX9_between_0 rfl ?_
  refine pr_iconst dX9_between_1 ?_
  refine pr_icmp_ne (tgt := 16) dX9_between_2 rfl (wr_eq (by decide) (by decide)) (by decide) (fun c_1 => ?_) (fun c_1 => ?_)
  · have h := pm_ng c_1 h
    refine pr_iload_n dX9_between_16 rfl ?_
    refine pr_iconst dX9_between_17 ?_
    refine pr_icmp_ne (tgt := 25) dX9_between_18 rfl (wr_eq (by decide) (by decide)) (by decide) (fun c_2 => ?_) (fun c_2 => ?_)
    · have h := pm_ng c_2 h
      refine pr_iload_n dX9_between_25 rfl ?_
      refine pr_iload_n dX9_between_26 rfl ?_
      refine pr_iadd dX9_between_27 ?_
      refine pr_iconst dX9_between_28 ?_
      refine pr_idiv dX9_between_29 rfl (wr_eq (by decide) (by decide)) (by decide) ?_
      have h := Option.some.inj h
      subst h
      exact pr_iret dX9_between_30 rfl
    · have h := pm_pos c_2 h
      refine pr_iload_n dX9_between_21 rfl ?_
      refine pr_goto (tgt := 30) dX9_between_22 (by decide) ?_
      have h := Option.some.inj h
      subst h
      exact pr_iret dX9_between_30 rfl
  · have h := pm_pos c_1 h
    refine pr_iload_n dX9_between_5 rfl ?_
    refine pr_iconst dX9_between_6 ?_
    refine pr_icmp_ne (tgt := 14) dX9_between_7 rfl (wr_eq (by decide) (by decide)) (by decide) (fun c_3 => ?_) (fun c_3 => ?_)
    · have h := pm_ng c_3 h
      refine pr_iload_n dX9_between_14 rfl ?_
      have h := Option.some.inj h
      subst h
      exact pr_iret dX9_between_15 rfl
    · have h := pm_pos c_3 h
      refine pr_iload_n dX9_between_10 rfl ?_
      refine pr_goto (tgt := 15) dX9_between_11 (by decide) ?_
      have h := Option.some.inj h
      subst h
      exact pr_iret dX9_between_15 rfl
def fX12_isIn (x0 : Int) (x1 : Int) : Option (Int) :=
  if (wr x0) < 0 then (some 0) else (if (wr x1) ≤ (wr x0) then (some 0) else (some 1))
set_option maxHeartbeats 4000000 in
set_option maxRecDepth 100000 in
theorem tmX12_isIn {lay : List pm_S} {x0 : Int} {x1 : Int} {σ : pm_M} {ρ : Int} (h : fX12_isIn x0 x1 = some ρ) : pm_C mX12_isIn 0 0 [pv_i x0, pv_i x1] lay σ (some (pv_i ρ)) lay σ := by
  refine pm_C.of (by decide) rfl (Nat.le_of_ble_eq_true rfl) ?_
  show pm_J mX12_isIn 0 0 lay (some (pv_i ρ)) lay σ 0 [some (pv_i x0), some (pv_i x1)] [] lay σ
  unfold fX12_isIn at h
  refine pr_iload_n dX12_isIn_0 rfl ?_
  refine pr_if_lt (tgt := 13) dX12_isIn_1 rfl (by decide) (fun c_1 => ?_) (fun c_1 => ?_)
  · have h := pm_pos c_1 h
    refine pr_iconst dX12_isIn_13 ?_
    have h := Option.some.inj h
    subst h
    exact pr_zret dX12_isIn_14 rfl (Or.inl rfl)
  · have h := pm_ng c_1 h
    refine pr_iload_n dX12_isIn_4 rfl ?_
    refine pr_iload_n dX12_isIn_5 rfl ?_
    refine pr_icmp_ge (tgt := 13) dX12_isIn_6 rfl rfl (by decide) (fun c_2 => ?_) (fun c_2 => ?_)
    · have h := pm_pos c_2 h
      refine pr_iconst dX12_isIn_13 ?_
      have h := Option.some.inj h
      subst h
      exact pr_zret dX12_isIn_14 rfl (Or.inl rfl)
    · have h := pm_ng c_2 h
      refine pr_iconst dX12_isIn_9 ?_
      refine pr_goto (tgt := 14) dX12_isIn_10 (by decide) ?_
      have h := Option.some.inj h
      subst h
      exact pr_zret dX12_isIn_14 rfl (Or.inr rfl)
def fX12_wrong (x0 : Int) (x1 : Int) (x2 : Int) : Option (Int) :=
  if (wr x1) ≤ (wr x0) then (if (wr x0) ≤ (wr x2) then (some 0) else (some (-6))) else (some (-4))
set_option maxHeartbeats 4000000 in
set_option maxRecDepth 100000 in
theorem tmX12_wrong {lay : List pm_S} {x0 : Int} {x1 : Int} {x2 : Int} {σ : pm_M} {ρ : Int} (h : fX12_wrong x0 x1 x2 = some ρ) : pm_C mX12_wrong 0 0 [pv_i x0, pv_i x1, pv_i x2] lay σ (some (pv_i ρ)) lay σ := by
  refine pm_C.of (by decide) rfl (Nat.le_of_ble_eq_true rfl) ?_
  show pm_J mX12_wrong 0 0 lay (some (pv_i ρ)) lay σ 0 [some (pv_i x0), some (pv_i x1), some (pv_i x2)] [] lay σ
  unfold fX12_wrong at h
  refine pr_iload_n dX12_wrong_0 rfl ?_
  refine pr_iload_n dX12_wrong_1 rfl ?_
  refine pr_icmp_ge (tgt := 10) dX12_wrong_2 rfl rfl (by decide) (fun c_1 => ?_) (fun c_1 => ?_)
  · have h := pm_pos c_1 h
    refine pr_iload_n dX12_wrong_10 rfl ?_
    refine pr_iload_n dX12_wrong_11 rfl ?_
    refine pr_icmp_le (tgt := 20) dX12_wrong_12 rfl rfl (by decide) (fun c_2 => ?_) (fun c_2 => ?_)
    · have h := pm_pos c_2 h
      refine pr_iconst dX12_wrong_20 ?_
      have h := Option.some.inj h
      subst h
      exact pr_iret dX12_wrong_21 rfl
    · have h := pm_ng c_2 h
      refine pr_bipush dX12_wrong_15 (by decide) ?_
      refine pr_goto (tgt := 21) dX12_wrong_17 (by decide) ?_
      have h := Option.some.inj h
      subst h
      exact pr_iret dX12_wrong_21 rfl
  · have h := pm_ng c_1 h
    refine pr_bipush dX12_wrong_5 (by decide) ?_
    refine pr_goto (tgt := 21) dX12_wrong_7 (by decide) ?_
    have h := Option.some.inj h
    subst h
    exact pr_iret dX12_wrong_21 rfl
def fX12_isWeight (x0 : Int) : Option (Int) :=
  (fX12_isIn (x0 - 1) 8).bind fun q1 => pm_g (q1 = 0 ∨ q1 = 1) (some q1)
set_option maxHeartbeats 4000000 in
set_option maxRecDepth 100000 in
theorem tmX12_isWeight {lay : List pm_S} {x0 : Int} {σ : pm_M} {ρ : Int} (h : fX12_isWeight x0 = some ρ) : pm_C mX12_isWeight 1 21 [pv_i x0] lay σ (some (pv_i ρ)) lay σ := by
  refine pm_C.of (by decide) rfl (Nat.le_of_ble_eq_true rfl) ?_
  show pm_J mX12_isWeight 1 21 lay (some (pv_i ρ)) lay σ 0 [some (pv_i x0)] [] lay σ
  unfold fX12_isWeight at h
  refine pr_iload_n dX12_isWeight_0 rfl ?_
  refine pr_iconst dX12_isWeight_1 ?_
  refine pr_isub dX12_isWeight_2 ?_
  refine pr_bipush dX12_isWeight_3 (by decide) ?_
  obtain ⟨q1, e2, h⟩ := pm_bs h
  refine pr_callS (av := [pv_i (x0 - 1), pv_i 8]) (S := []) dX12_isWeight_5 mk_X12_95 rfl rfl (Nat.le_of_ble_eq_true rfl) (by decide) (by decide) (Or.inl rfl) (tmX12_isIn e2) ?_
  obtain ⟨g_3, h⟩ := pm_gs h
  have h := Option.some.inj h
  subst h
  exact pr_zret dX12_isWeight_8 rfl g_3
