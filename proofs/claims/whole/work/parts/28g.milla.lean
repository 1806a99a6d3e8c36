def fX11_mark (x1 : Int) (x2 : Int) (x3 : Int) (σ : pm_M) : Option (Int × pm_M) :=
  (fX11_isNumber x1 (σ 26 8)).bind fun q1 => if (wr q1) = 0 then ((fX11_refuse (-1) σ).bind fun q16 => some (q16.1, q16.2)) else ((fX11_isNumber x2 60).bind fun q4 => if (wr q4) = 0 then ((fX11_refuse (-1) σ).bind fun q7 => some (q7.1, q7.2)) else ((fX11_isNumber x3 6).bind fun q9 => if (wr q9) = 0 then ((fX11_refuse (-1) σ).bind fun q14 => some (q14.1, q14.2)) else ((fX2_markOf 15 x1 x2 x3 σ).bind fun q12 => some (q12, σ))))
set_option maxHeartbeats 4000000 in
set_option maxRecDepth 100000 in
theorem tmX11_mark {x1 : Int} {x2 : Int} {x3 : Int} {σ : pm_M} {ρ : Int × pm_M} (h : fX11_mark x1 x2 x3 σ = some ρ) : pm_C mX11_mark 2 47 [pv_r 0, pv_i x1, pv_i x2, pv_i x3] LAYC σ (some (pv_i ρ.1)) LAYC ρ.2 := by
  refine pm_C.of (by decide) rfl (Nat.le_of_ble_eq_true rfl) ?_
  show pm_J mX11_mark 2 47 LAYC (some (pv_i ρ.1)) LAYC ρ.2 0 [some (pv_r 0), some (pv_i x1), some (pv_i x2), some (pv_i x3)] [] LAYC σ
  unfold fX11_mark at h
  refine pr_iload_n dX11_mark_0 rfl ?_
  refine pr_aload_n dX11_mark_1 rfl ?_
  refine pr_getR dX11_mark_2 lk_X11_28 lc_0 rfl ?_
  refine pr_getR dX11_mark_5 lk_X11_44 lc_15 rfl ?_
  refine pr_getI dX11_mark_8 lk_X11_193 lc_26 rfl ?_
  obtain ⟨q1, e2, h⟩ := pm_bs h
  refine pr_callS (av := [pv_i x1, pv_i (σ 26 8)]) (S := []) dX11_mark_11 mk_X11_65 rfl rfl (Nat.le_of_ble_eq_true rfl) (by decide) (by decide) (Or.inl rfl) (tmX11_isNumber e2) ?_
  refine pr_if_ne (tgt := 23) dX11_mark_14 rfl (by decide) (fun c_3 => ?_) (fun c_3 => ?_)
  · have h := pm_ng c_3 h
    refine pr_iload_n dX11_mark_23 rfl ?_
    refine pr_bipush dX11_mark_24 (by decide) ?_
    obtain ⟨q4, e5, h⟩ := pm_bs h
    refine pr_callS (av := [pv_i x2, pv_i 60]) (S := []) dX11_mark_26 mk_X11_65 rfl rfl (Nat.le_of_ble_eq_true rfl) (by decide) (by decide) (Or.inl rfl) (tmX11_isNumber e5) ?_
    refine pr_if_eq (tgt := 41) dX11_mark_29 rfl (by decide) (fun c_6 => ?_) (fun c_6 => ?_)
    · have h := pm_pos c_6 h
      refine pr_aload_n dX11_mark_41 rfl ?_
      refine pr_iconst dX11_mark_42 ?_
      obtain ⟨q7, e8, h⟩ := pm_bs h
      refine pr_callV (As := [pv_i (-1)]) (S := []) (t := 0) dX11_mark_43 mk_X11_69 lc_0 (ci := 11) (q := (RX11, TX11, 11)) rfl rfl rfl rfl (Nat.le_of_ble_eq_true rfl) (by decide) (by decide) (Or.inl rfl) (tmX11_refuse e8) ?_
      have h := Option.some.inj h
      subst h
      exact pr_iret dX11_mark_46 rfl
    · have h := pm_ng c_6 h
      refine pr_iload_n dX11_mark_32 rfl ?_
      refine pr_bipush dX11_mark_33 (by decide) ?_
      obtain ⟨q9, e10, h⟩ := pm_bs h
      refine pr_callS (av := [pv_i x3, pv_i 6]) (S := []) dX11_mark_35 mk_X11_65 rfl rfl (Nat.le_of_ble_eq_true rfl) (by decide) (by decide) (Or.inl rfl) (tmX11_isNumber e10) ?_
      refine pr_if_ne (tgt := 47) dX11_mark_38 rfl (by decide) (fun c_11 => ?_) (fun c_11 => ?_)
      · have h := pm_ng c_11 h
        refine pr_aload_n dX11_mark_47 rfl ?_
        refine pr_getR dX11_mark_48 lk_X11_28 lc_0 rfl ?_
        refine pr_getR dX11_mark_51 lk_X11_44 lc_15 rfl ?_
        refine pr_getR dX11_mark_54 lk_X11_273 lc_26 rfl ?_
        refine pr_iload_n dX11_mark_57 rfl ?_
        refine pr_iload_n dX11_mark_58 rfl ?_
        refine pr_iload_n dX11_mark_59 rfl ?_
        obtain ⟨q12, e13, h⟩ := pm_bs h
        refine pr_callV (As := [pv_i x1, pv_i x2, pv_i x3]) (S := []) (t := 27) dX11_mark_60 mk_X11_277 lc_27 (ci := 2) (q := (RX2, TX2, 2)) rfl rfl rfl rfl (Nat.le_of_ble_eq_true rfl) (by decide) (by decide) (Or.inl rfl) (tmX2_markOf (Or.inl rfl) e13) ?_
        have h := Option.some.inj h
        subst h
        exact pr_iret dX11_mark_63 rfl
      · have h := pm_pos c_11 h
        refine pr_aload_n dX11_mark_41 rfl ?_
        refine pr_iconst dX11_mark_42 ?_
        obtain ⟨q14, e15, h⟩ := pm_bs h
        refine pr_callV (As := [pv_i (-1)]) (S := []) (t := 0) dX11_mark_43 mk_X11_69 lc_0 (ci := 11) (q := (RX11, TX11, 11)) rfl rfl rfl rfl (Nat.le_of_ble_eq_true rfl) (by decide) (by decide) (Or.inl rfl) (tmX11_refuse e15) ?_
        have h := Option.some.inj h
        subst h
        exact pr_iret dX11_mark_46 rfl
  · have h := pm_pos c_3 h
    refine pr_aload_n dX11_mark_17 rfl ?_
    refine pr_iconst dX11_mark_18 ?_
    obtain ⟨q16, e17, h⟩ := pm_bs h
    refine pr_callV (As := [pv_i (-1)]) (S := []) (t := 0) dX11_mark_19 mk_X11_69 lc_0 (ci := 11) (q := (RX11, TX11, 11)) rfl rfl rfl rfl (Nat.le_of_ble_eq_true rfl) (by decide) (by decide) (Or.inl rfl) (tmX11_refuse e17) ?_
    have h := Option.some.inj h
    subst h
    exact pr_iret dX11_mark_22 rfl
def fX11_readOld (x1 : Int) (x2 : Int) (x3 : Int) (x4 : Int) (σ : pm_M) : Option (Int × pm_M) :=
  if (wr x2) < (-1) then ((fX11_refuse (-4) σ).bind fun q2 => some (q2.1, q2.2)) else (if (wr x3) < (-1) then ((fX11_refuse (-4) σ).bind fun q5 => some (q5.1, q5.2)) else (if (-1) ≤ (wr x4) then (if 99 < (wr x2) then ((fX11_refuse (-6) σ).bind fun q9 => some (q9.1, q9.2)) else (if 99 < (wr x3) then ((fX11_refuse (-6) σ).bind fun q12 => some (q12.1, q12.2)) else (if (wr x4) ≤ 99 then (pm_g (0 ≤ (wr x1) ∧ (wr x1) < 6) (pm_g (0 ≤ (wr (x1 + 1)) ∧ (wr (x1 + 1)) < 6) (pm_g (0 ≤ (wr (x1 + 2)) ∧ (wr (x1 + 2)) < 6) (some (1, (pm_up (pm_up (pm_up σ 90 (Int.toNat (wr x1)) x2) 90 (Int.toNat (wr (x1 + 1))) x3) 90 (Int.toNat (wr (x1 + 2))) x4)))))) else ((fX11_refuse (-6) σ).bind fun q18 => some (q18.1, q18.2))))) else ((fX11_refuse (-4) σ).bind fun q20 => some (q20.1, q20.2))))
set_option maxHeartbeats 4000000 in
set_option maxRecDepth 100000 in
theorem tmX11_readOld {x1 : Int} {x2 : Int} {x3 : Int} {x4 : Int} {σ : pm_M} {ρ : Int × pm_M} (h : fX11_readOld x1 x2 x3 x4 σ = some ρ) : pm_C mX11_readOld 1 21 [pv_r 0, pv_i x1, pv_i x2, pv_i x3, pv_i x4] LAYC σ (some (pv_i ρ.1)) LAYC ρ.2 := by
  refine pm_C.of (by decide) rfl (Nat.le_of_ble_eq_true rfl) ?_
  show pm_J mX11_readOld 1 21 LAYC (some (pv_i ρ.1)) LAYC ρ.2 0 [some (pv_r 0), some (pv_i x1), some (pv_i x2), some (pv_i x3), some (pv_i x4)] [] LAYC σ
  unfold fX11_readOld at h
  refine pr_iload_n dX11_readOld_0 rfl ?_
  refine pr_iconst dX11_readOld_1 ?_
  refine pr_icmp_lt (tgt := 16) dX11_readOld_2 rfl (wr_eq (by decide) (by decide)) (by decide) (fun c_1 => ?_) (fun c_1 => ?_)
  · have h := pm_pos c_1 h
    refine pr_aload_n dX11_readOld_16 rfl ?_
    refine pr_bipush dX11_readOld_17 (by decide) ?_
    obtain ⟨q2, e3, h⟩ := pm_bs h
    refine pr_callV (As := [pv_i (-4)]) (S := []) (t := 0) dX11_readOld_19 mk_X11_69 lc_0 (ci := 11) (q := (RX11, TX11, 11)) rfl rfl rfl rfl (Nat.le_of_ble_eq_true rfl) (by decide) (by decide) (Or.inl rfl) (tmX11_refuse e3) ?_
    have h := Option.some.inj h
    subst h
    exact pr_iret dX11_readOld_22 rfl
  · have h := pm_ng c_1 h
    refine pr_iload_n dX11_readOld_5 rfl ?_
    refine pr_iconst dX11_readOld_6 ?_
    refine pr_icmp_lt (tgt := 16) dX11_readOld_7 rfl (wr_eq (by decide) (by decide)) (by decide) (fun c_4 => ?_) (fun c_4 => ?_)
    · have h := pm_pos c_4 h
      refine pr_aload_n dX11_readOld_16 rfl ?_
      refine pr_bipush dX11_readOld_17 (by decide) ?_
      obtain ⟨q5, e6, h⟩ := pm_bs h
      refine pr_callV (As := [pv_i (-4)]) (S := []) (t := 0) dX11_readOld_19 mk_X11_69 lc_0 (ci := 11) (q := (RX11, TX11, 11)) rfl rfl rfl rfl (Nat.le_of_ble_eq_true rfl) (by decide) (by decide) (Or.inl rfl) (tmX11_refuse e6) ?_
      have h := Option.some.inj h
      subst h
      exact pr_iret dX11_readOld_22 rfl
    · have h := pm_ng c_4 h
      refine pr_iload dX11_readOld_10 rfl ?_
      refine pr_iconst dX11_readOld_12 ?_
      refine pr_icmp_ge (tgt := 23) dX11_readOld_13 rfl (wr_eq (by decide) (by decide)) (by decide) (fun c_7 => ?_) (fun c_7 => ?_)
      · have h := pm_pos c_7 h
        refine pr_iload_n dX11_readOld_23 rfl ?_
        refine pr_bipush dX11_readOld_24 (by decide) ?_
        refine pr_icmp_gt (tgt := 42) dX11_readOld_26 rfl (wr_eq (by decide) (by decide)) (by decide) (fun c_8 => ?_) (fun c_8 => ?_)
        · have h := pm_pos c_8 h
          refine pr_aload_n dX11_readOld_42 rfl ?_
          refine pr_bipush dX11_readOld_43 (by decide) ?_
          obtain ⟨q9, e10, h⟩ := pm_bs h
          refine pr_callV (As := [pv_i (-6)]) (S := []) (t := 0) dX11_readOld_45 mk_X11_69 lc_0 (ci := 11) (q := (RX11, TX11, 11)) rfl rfl rfl rfl (Nat.le_of_ble_eq_true rfl) (by decide) (by decide) (Or.inl rfl) (tmX11_refuse e10) ?_
          have h := Option.some.inj h
          subst h
          exact pr_iret dX11_readOld_48 rfl
        · have h := pm_ng c_8 h
          refine pr_iload_n dX11_readOld_29 rfl ?_
          refine pr_bipush dX11_readOld_30 (by decide) ?_
          refine pr_icmp_gt (tgt := 42) dX11_readOld_32 rfl (wr_eq (by decide) (by decide)) (by decide) (fun c_11 => ?_) (fun c_11 => ?_)
          · have h := pm_pos c_11 h
            refine pr_aload_n dX11_readOld_42 rfl ?_
            refine pr_bipush dX11_readOld_43 (by decide) ?_
            obtain ⟨q12, e13, h⟩ := pm_bs h
            refine pr_callV (As := [pv_i (-6)]) (S := []) (t := 0) dX11_readOld_45 mk_X11_69 lc_0 (ci := 11) (q := (RX11, TX11, 11)) rfl rfl rfl rfl (Nat.le_of_ble_eq_true rfl) (by decide) (by decide) (Or.inl rfl) (tmX11_refuse e13) ?_
            have h := Option.some.inj h
            subst h
            exact pr_iret dX11_readOld_48 rfl
          · have h := pm_ng c_11 h
            refine pr_iload dX11_readOld_35 rfl ?_
            refine pr_bipush dX11_readOld_37 (by decide) ?_
            refine pr_icmp_le (tgt := 49) dX11_readOld_39 rfl (wr_eq (by decide) (by decide)) (by decide) (fun c_14 => ?_) (fun c_14 => ?_)
            · have h := pm_pos c_14 h
              refine pr_aload_n dX11_readOld_49 rfl ?_
              refine pr_getR dX11_readOld_50 lk_X11_51 lc_0 rfl ?_
              refine pr_getR dX11_readOld_53 lk_X11_358 lc_89 rfl ?_
              refine pr_iload_n dX11_readOld_56 rfl ?_
              refine pr_iload_n dX11_readOld_57 rfl ?_
              obtain ⟨g_15, h⟩ := pm_gs h
              refine pr_iast dX11_readOld_58 lc_90 rfl g_15 ?_
              refine pr_aload_n dX11_readOld_59 rfl ?_
              refine pr_getR dX11_readOld_60 lk_X11_51 lc_0 rfl ?_
              refine pr_getR dX11_readOld_63 lk_X11_358 lc_89 rfl ?_
              refine pr_iload_n dX11_readOld_66 rfl ?_
              refine pr_iconst dX11_readOld_67 ?_
              refine pr_iadd dX11_readOld_68 ?_
              refine pr_iload_n dX11_readOld_69 rfl ?_
              obtain ⟨g_16, h⟩ := pm_gs h
              refine pr_iast dX11_readOld_70 lc_90 rfl g_16 ?_
              refine pr_aload_n dX11_readOld_71 rfl ?_
              refine pr_getR dX11_readOld_72 lk_X11_51 lc_0 rfl ?_
              refine pr_getR dX11_readOld_75 lk_X11_358 lc_89 rfl ?_
              refine pr_iload_n dX11_readOld_78 rfl ?_
              refine pr_iconst dX11_readOld_79 ?_
              refine pr_iadd dX11_readOld_80 ?_
              refine pr_iload dX11_readOld_81 rfl ?_
              obtain ⟨g_17, h⟩ := pm_gs h
              refine pr_iast dX11_readOld_83 lc_90 rfl g_17 ?_
              refine pr_iconst dX11_readOld_84 ?_
              have h := Option.some.inj h
              subst h
              exact pr_iret dX11_readOld_85 rfl
            · have h := pm_ng c_14 h
              refine pr_aload_n dX11_readOld_42 rfl ?_
              refine pr_bipush dX11_readOld_43 (by decide) ?_
              obtain ⟨q18, e19, h⟩ := pm_bs h
              refine pr_callV (As := [pv_i (-6)]) (S := []) (t := 0) dX11_readOld_45 mk_X11_69 lc_0 (ci := 11) (q := (RX11, TX11, 11)) rfl rfl rfl rfl (Nat.le_of_ble_eq_true rfl) (by decide) (by decide) (Or.inl rfl) (tmX11_refuse e19) ?_
              have h := Option.some.inj h
              subst h
              exact pr_iret dX11_readOld_48 rfl
      · have h := pm_ng c_7 h
        refine pr_aload_n dX11_readOld_16 rfl ?_
        refine pr_bipush dX11_readOld_17 (by decide) ?_
        obtain ⟨q20, e21, h⟩ := pm_bs h
        refine pr_callV (As := [pv_i (-4)]) (S := []) (t := 0) dX11_readOld_19 mk_X11_69 lc_0 (ci := 11) (q := (RX11, TX11, 11)) rfl rfl rfl rfl (Nat.le_of_ble_eq_true rfl) (by decide) (by decide) (Or.inl rfl) (tmX11_refuse e21) ?_
        have h := Option.some.inj h
        subst h
        exact pr_iret dX11_readOld_22 rfl
def fX11_oldA (x1 : Int) (x2 : Int) (x3 : Int) (σ : pm_M) : Option (Int × pm_M) :=
  (fX11_readOld 0 x1 x2 x3 σ).bind fun q1 => some (q1.1, q1.2)
set_option maxHeartbeats 4000000 in
set_option maxRecDepth 100000 in
theorem tmX11_oldA {x1 : Int} {x2 : Int} {x3 : Int} {σ : pm_M} {ρ : Int × pm_M} (h : fX11_oldA x1 x2 x3 σ = some ρ) : pm_C mX11_oldA 2 45 [pv_r 0, pv_i x1, pv_i x2, pv_i x3] LAYC σ (some (pv_i ρ.1)) LAYC ρ.2 := by
  refine pm_C.of (by decide) rfl (Nat.le_of_ble_eq_true rfl) ?_
  show pm_J mX11_oldA 2 45 LAYC (some (pv_i ρ.1)) LAYC ρ.2 0 [some (pv_r 0), some (pv_i x1), some (pv_i x2), some (pv_i x3)] [] LAYC σ
  unfold fX11_oldA at h
  refine pr_aload_n dX11_oldA_0 rfl ?_
  refine pr_iconst dX11_oldA_1 ?_
  refine pr_iload_n dX11_oldA_2 rfl ?_
  refine pr_iload_n dX11_oldA_3 rfl ?_
  refine pr_iload_n dX11_oldA_4 rfl ?_
  obtain ⟨q1, e2, h⟩ := pm_bs h
  refine pr_callV (As := [pv_i 0, pv_i x1, pv_i x2, pv_i x3]) (S := []) (t := 0) dX11_oldA_5 mk_X11_282 lc_0 (ci := 11) (q := (RX11, TX11, 11)) rfl rfl rfl rfl (Nat.le_of_ble_eq_true rfl) (by decide) (by decide) (Or.inl rfl) (tmX11_readOld e2) ?_
  have h := Option.some.inj h
  subst h
  exact pr_iret dX11_oldA_8 rfl
def fX11_oldB (x1 : Int) (x2 : Int) (x3 : Int) (σ : pm_M) : Option (Int × pm_M) :=
  (fX11_readOld 3 x1 x2 x3 σ).bind fun q1 => some (q1.1, q1.2)
set_option maxHeartbeats 4000000 in
set_option maxRecDepth 100000 in
theorem tmX11_oldB {x1 : Int} {x2 : Int} {x3 : Int} {σ : pm_M} {ρ : Int × pm_M} (h : fX11_oldB x1 x2 x3 σ = some ρ) : pm_C mX11_oldB 2 45 [pv_r 0, pv_i x1, pv_i x2, pv_i x3] LAYC σ (some (pv_i ρ.1)) LAYC ρ.2 := by
  refine pm_C.of (by decide) rfl (Nat.le_of_ble_eq_true rfl) ?_
  show pm_J mX11_oldB 2 45 LAYC (some (pv_i ρ.1)) LAYC ρ.2 0 [some (pv_r 0), some (pv_i x1), some (pv_i x2), some (pv_i x3)] [] LAYC σ
  unfold fX11_oldB at h
  refine pr_aload_n dX11_oldB_0 rfl ?_
  refine pr_iconst dX11_oldB_1 ?_
  refine pr_iload_n dX11_oldB_2 rfl ?_
  refine pr_iload_n dX11_oldB_3 rfl ?_
  refine pr_iload_n dX11_oldB_4 rfl ?_
  obtain ⟨q1, e2, h⟩ := pm_bs h
  refine pr_callV (As := [pv_i 3, pv_i x1, pv_i x2, pv_i x3]) (S := []) (t := 0) dX11_oldB_5 mk_X11_282 lc_0 (ci := 11) (q := (RX11, TX11, 11)) rfl rfl rfl rfl (Nat.le_of_ble_eq_true rfl) (by decide) (by decide) (Or.inl rfl) (tmX11_readOld e2) ?_
  have h := Option.some.inj h
  subst h
  exact pr_iret dX11_oldB_8 rfl
def fX11_lies (x1 : Int) (σ : pm_M) : Option (Int × pm_M) :=
  if 0 ≤ (wr x1) then (if (wr x1) ≤ 99 then ((fX4_countNear x1 σ).bind fun q3 => some (q3, σ)) else ((fX11_refuse (-6) σ).bind fun q5 => some (q5.1, q5.2))) else ((fX11_refuse (-4) σ).bind fun q7 => some (q7.1, q7.2))
set_option maxHeartbeats 4000000 in
set_option maxRecDepth 100000 in
theorem tmX11_lies {x1 : Int} {σ : pm_M} {ρ : Int × pm_M} (h : fX11_lies x1 σ = some ρ) : pm_C mX11_lies 4 94 [pv_r 0, pv_i x1] LAYC σ (some (pv_i ρ.1)) LAYC ρ.2 := by
  refine pm_C.of (by decide) rfl (Nat.le_of_ble_eq_true rfl) ?_
  show pm_J mX11_lies 4 94 LAYC (some (pv_i ρ.1)) LAYC ρ.2 0 [some (pv_r 0), some (pv_i x1)] [] LAYC σ
  unfold fX11_lies at h
  refine pr_iload_n dX11_lies_0 rfl ?_
  refine pr_if_ge (tgt := 11) dX11_lies_1 rfl (by decide) (fun c_1 => ?_) (fun c_1 => ?_)
  · have h := pm_pos c_1 h
    refine pr_iload_n dX11_lies_11 rfl ?_
    refine pr_bipush dX11_lies_12 (by decide) ?_
    refine pr_icmp_le (tgt := 24) dX11_lies_14 rfl (wr_eq (by decide) (by decide)) (by decide) (fun c_2 => ?_) (fun c_2 => ?_)
    · have h := pm_pos c_2 h
      refine pr_aload_n dX11_lies_24 rfl ?_
      refine pr_getR dX11_lies_25 lk_X11_51 lc_0 rfl ?_
      refine pr_iload_n dX11_lies_28 rfl ?_
      obtain ⟨q3, e4, h⟩ := pm_bs h
      refine pr_callV (As := [pv_i x1]) (S := []) (t := 89) dX11_lies_29 mk_X11_286 lc_89 (ci := 4) (q := (RX4, TX4, 5)) rfl rfl rfl rfl (Nat.le_of_ble_eq_true rfl) (by decide) (by decide) (Or.inl rfl) (tmX4_countNear e4) ?_
      have h := Option.some.inj h
      subst h
      exact pr_iret dX11_lies_32 rfl
    · have h := pm_ng c_2 h
      refine pr_aload_n dX11_lies_17 rfl ?_
      refine pr_bipush dX11_lies_18 (by decide) ?_
      obtain ⟨q5, e6, h⟩ := pm_bs h
      refine pr_callV (As := [pv_i (-6)]) (S := []) (t := 0) dX11_lies_20 mk_X11_69 lc_0 (ci := 11) (q := (RX11, TX11, 11)) rfl rfl rfl rfl (Nat.le_of_ble_eq_true rfl) (by decide) (by decide) (Or.inl rfl) (tmX11_refuse e6) ?_
      have h := Option.some.inj h
      subst h
      exact pr_iret dX11_lies_23 rfl
  · have h := pm_ng c_1 h
    refine pr_aload_n dX11_lies_4 rfl ?_
    refine pr_bipush dX11_lies_5 (by decide) ?_
    obtain ⟨q7, e8, h⟩ := pm_bs h
    refine pr_callV (As := [pv_i (-4)]) (S := []) (t := 0) dX11_lies_7 mk_X11_69 lc_0 (ci := 11) (q := (RX11, TX11, 11)) rfl rfl rfl rfl (Nat.le_of_ble_eq_true rfl) (by decide) (by decide) (Or.inl rfl) (tmX11_refuse e8) ?_
    have h := Option.some.inj h
    subst h
    exact pr_iret dX11_lies_10 rfl
def fX11_nearest (x1 : Int) (σ : pm_M) : Option (Int × pm_M) :=
  (fX11_isNumber x1 5).bind fun q1 => if (wr q1) = 0 then ((fX11_refuse (-2) σ).bind fun q10 => some (q10.1, q10.2)) else (if (wr (σ 26 8)) = 0 then (some ((-9), σ)) else ((fX4_findNearest σ).bind fun q5 => if (wr x1) = 0 then (some ((q5 89 2), q5)) else (if (wr x1) = 1 then (some ((q5 89 3), q5)) else (if (wr x1) = 2 then (pm_g (0 ≤ (wr (q5 89 2)) ∧ (wr (q5 89 2)) < 80) (some (((2 * (q5 30 (Int.toNat (wr (q5 89 2))))) + (Int.tmod (wr (q5 89 3)) 2)), q5))) else (if (wr x1) = 3 then (some ((q5 89 4), q5)) else (pm_g (0 ≤ (wr (q5 89 2)) ∧ (wr (q5 89 2)) < 80) (some ((q5 32 (Int.toNat (wr (q5 89 2)))), q5))))))))
set_option maxHeartbeats 4000000 in
set_option maxRecDepth 100000 in
theorem tmX11_nearest {x1 : Int} {σ : pm_M} {ρ : Int × pm_M} (h : fX11_nearest x1 σ = some ρ) : pm_C mX11_nearest 5 115 [pv_r 0, pv_i x1] LAYC σ (some (pv_i ρ.1)) LAYC ρ.2 := by
  refine pm_C.of (by decide) rfl (Nat.le_of_ble_eq_true rfl) ?_
  show pm_J mX11_nearest 5 115 LAYC (some (pv_i ρ.1)) LAYC ρ.2 0 [some (pv_r 0), some (pv_i x1), none, none] [] LAYC σ
  unfold fX11_nearest at h
  refine pr_iload_n dX11_nearest_0 rfl ?_
  refine pr_iconst dX11_nearest_1 ?_
  obtain ⟨q1, e2, h⟩ := pm_bs h
  refine pr_callS (av := [pv_i x1, pv_i 5]) (S := []) dX11_nearest_2 mk_X11_65 rfl rfl (Nat.le_of_ble_eq_true rfl) (by decide) (by decide) (Or.inl rfl) (tmX11_isNumber e2) ?_
  refine pr_if_ne (tgt := 15) dX11_nearest_5 rfl (by decide) (fun c_3 => ?_) (fun c_3 => ?_)
  · have h := pm_ng c_3 h
    refine pr_aload_n dX11_nearest_15 rfl ?_
    refine pr_getR dX11_nearest_16 lk_X11_28 lc_0 rfl ?_
    refine pr_getR dX11_nearest_19 lk_X11_44 lc_15 rfl ?_
    refine pr_getI dX11_nearest_22 lk_X11_193 lc_26 rfl ?_
    refine pr_if_ne (tgt := 31) dX11_nearest_25 rfl (by decide) (fun c_4 => ?_) (fun c_4 => ?_)
    · have h := pm_ng c_4 h
      refine pr_aload_n dX11_nearest_31 rfl ?_
      refine pr_getR dX11_nearest_32 lk_X11_51 lc_0 rfl ?_
      obtain ⟨q5, e6, h⟩ := pm_bs h
      refine pr_callV (As := []) (S := []) (t := 89) dX11_nearest_35 mk_X11_289 lc_89 (ci := 4) (q := (RX4, TX4, 5)) rfl rfl rfl rfl (Nat.le_of_ble_eq_true rfl) (by decide) (by decide) (Or.inl rfl) (tmX4_findNearest e6) ?_
      refine pr_aload_n dX11_nearest_38 rfl ?_
      refine pr_getR dX11_nearest_39 lk_X11_51 lc_0 rfl ?_
      refine pr_getI dX11_nearest_42 lk_X11_292 lc_89 rfl ?_
      refine pr_istore_n dX11_nearest_45 (by decide) rfl ?_
      refine pr_aload_n dX11_nearest_46 rfl ?_
      refine pr_getR dX11_nearest_47 lk_X11_51 lc_0 rfl ?_
      refine pr_getI dX11_nearest_50 lk_X11_295 lc_89 rfl ?_
      refine pr_istore_n dX11_nearest_53 (by decide) rfl ?_
      refine pr_iload_n dX11_nearest_54 rfl ?_
      by_cases c_8_0 : (wr x1) = 0
      · have h := pm_pos c_8_0 h
        refine pr_tsIn (j := 0) (tgt := 84) dX11_nearest_55 rfl (c_8_0.trans (by decide)) (by decide) rfl (by decide) ?_
        refine pr_iload_n dX11_nearest_84 rfl ?_
        have h := Option.some.inj h
        subst h
        exact pr_iret dX11_nearest_85 rfl
      · have h := pm_ng c_8_0 h
        by_cases c_8_1 : (wr x1) = 1
        · have h := pm_pos c_8_1 h
          refine pr_tsIn (j := 1) (tgt := 86) dX11_nearest_55 rfl (c_8_1.trans (by decide)) (by decide) rfl (by decide) ?_
          refine pr_iload_n dX11_nearest_86 rfl ?_
          have h := Option.some.inj h
          subst h
          exact pr_iret dX11_nearest_87 rfl
        · have h := pm_ng c_8_1 h
          by_cases c_8_2 : (wr x1) = 2
          · have h := pm_pos c_8_2 h
            refine pr_tsIn (j := 2) (tgt := 88) dX11_nearest_55 rfl (c_8_2.trans (by decide)) (by decide) rfl (by decide) ?_
            refine pr_iconst dX11_nearest_88 ?_
            refine pr_aload_n dX11_nearest_89 rfl ?_
            refine pr_getR dX11_nearest_90 lk_X11_28 lc_0 rfl ?_
            refine pr_getR dX11_nearest_93 lk_X11_44 lc_15 rfl ?_
            refine pr_getR dX11_nearest_96 lk_X11_298 lc_26 rfl ?_
            refine pr_iload_n dX11_nearest_99 rfl ?_
            obtain ⟨g_9, h⟩ := pm_gs h
            refine pr_iald dX11_nearest_100 lc_30 rfl g_9 ?_
            refine pr_imul dX11_nearest_101 ?_
            refine pr_iload_n dX11_nearest_102 rfl ?_
            refine pr_iconst dX11_nearest_103 ?_
            refine pr_irem dX11_nearest_104 rfl (wr_eq (by decide) (by decide)) (by decide) ?_
            refine pr_iadd dX11_nearest_105 ?_
            have h := Option.some.inj h
            subst h
            exact pr_iret dX11_nearest_106 rfl
          · have h := pm_ng c_8_2 h
            by_cases c_8_3 : (wr x1) = 3
            · have h := pm_pos c_8_3 h
              refine pr_tsIn (j := 3) (tgt := 107) dX11_nearest_55 rfl (c_8_3.trans (by decide)) (by decide) rfl (by decide) ?_
              refine pr_aload_n dX11_nearest_107 rfl ?_
              refine pr_getR dX11_nearest_108 lk_X11_51 lc_0 rfl ?_
              refine pr_getI dX11_nearest_111 lk_X11_299 lc_89 rfl ?_
              have h := Option.some.inj h
              subst h
              exact pr_iret dX11_nearest_114 rfl
            · have h := pm_ng c_8_3 h
              refine pr_tsOut (tgt := 115) dX11_nearest_55 rfl (by omega) (by decide) ?_
              refine pr_aload_n dX11_nearest_115 rfl ?_
              refine pr_getR dX11_nearest_116 lk_X11_28 lc_0 rfl ?_
              refine pr_getR dX11_nearest_119 lk_X11_44 lc_15 rfl ?_
              refine pr_getR dX11_nearest_122 lk_X11_302 lc_26 rfl ?_
              refine pr_iload_n dX11_nearest_125 rfl ?_
              obtain ⟨g_7, h⟩ := pm_gs h
              refine pr_iald dX11_nearest_126 lc_32 rfl g_7 ?_
              have h := Option.some.inj h
              subst h
              exact pr_iret dX11_nearest_127 rfl
    · have h := pm_pos c_4 h
      refine pr_bipush dX11_nearest_28 (by decide) ?_
      have h := Option.some.inj h
      subst h
      exact pr_iret dX11_nearest_30 rfl
  · have h := pm_pos c_3 h
    refine pr_aload_n dX11_nearest_8 rfl ?_
    refine pr_bipush dX11_nearest_9 (by decide) ?_
    obtain ⟨q10, e11, h⟩ := pm_bs h
    refine pr_callV (As := [pv_i (-2)]) (S := []) (t := 0) dX11_nearest_11 mk_X11_69 lc_0 (ci := 11) (q := (RX11, TX11, 11)) rfl rfl rfl rfl (Nat.le_of_ble_eq_true rfl) (by decide) (by decide) (Or.inl rfl) (tmX11_refuse e11) ?_
    have h := Option.some.inj h
    subst h
    exact pr_iret dX11_nearest_14 rfl
