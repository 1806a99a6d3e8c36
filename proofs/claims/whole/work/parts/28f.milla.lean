def fX11_best (x1 : Int) (σ : pm_M) : Option (Int × pm_M) :=
  (fX11_planRefusal x1 σ).bind fun q1 => if (wr q1) = 0 then ((fX10_today 15 σ).bind fun q4 => (fX5_plan x1 (q4 + 1) σ).bind fun q6 => some ((q6 81 8), q6)) else ((fX11_refuse q1 σ).bind fun q8 => some (q8.1, q8.2))
set_option maxHeartbeats 4000000 in
set_option maxRecDepth 100000 in
theorem tmX11_best {x1 : Int} {σ : pm_M} {ρ : Int × pm_M} (h : fX11_best x1 σ = some ρ) : pm_C mX11_best 4 97 [pv_r 0, pv_i x1] LAYC σ (some (pv_i ρ.1)) LAYC ρ.2 := by
  refine pm_C.of (by decide) rfl (Nat.le_of_ble_eq_true rfl) ?_
  show pm_J mX11_best 4 97 LAYC (some (pv_i ρ.1)) LAYC ρ.2 0 [some (pv_r 0), some (pv_i x1), none] [] LAYC σ
  unfold fX11_best at h
  refine pr_aload_n dX11_best_0 rfl ?_
  refine pr_iload_n dX11_best_1 rfl ?_
  obtain ⟨q1, e2, h⟩ := pm_bs h
  refine pr_callV (As := [pv_i x1]) (S := []) (t := 0) dX11_best_2 mk_X11_238 lc_0 (ci := 11) (q := (RX11, TX11, 11)) rfl rfl rfl rfl (Nat.le_of_ble_eq_true rfl) (by decide) (by decide) (Or.inl rfl) (tmX11_planRefusal e2) ?_
  refine pr_istore_n dX11_best_5 (by decide) rfl ?_
  refine pr_iload_n dX11_best_6 rfl ?_
  refine pr_if_eq (tgt := 16) dX11_best_7 rfl (by decide) (fun c_3 => ?_) (fun c_3 => ?_)
  · have h := pm_pos c_3 h
    refine pr_aload_n dX11_best_16 rfl ?_
    refine pr_getR dX11_best_17 lk_X11_38 lc_0 rfl ?_
    refine pr_iload_n dX11_best_20 rfl ?_
    refine pr_aload_n dX11_best_21 rfl ?_
    refine pr_getR dX11_best_22 lk_X11_28 lc_0 rfl ?_
    obtain ⟨q4, e5, h⟩ := pm_bs h
    refine pr_callV (As := []) (S := [pv_i x1, pv_r 81]) (t := 15) dX11_best_25 mk_X11_228 lc_15 (ci := 10) (q := (RX10, TX10, 8)) rfl rfl rfl rfl (Nat.le_of_ble_eq_true rfl) (by decide) (by decide) (Or.inl rfl) (tmX10_today (Or.inl rfl) e5) ?_
    refine pr_iconst dX11_best_28 ?_
    refine pr_iadd dX11_best_29 ?_
    obtain ⟨q6, e7, h⟩ := pm_bs h
    refine pr_callV (As := [pv_i x1, pv_i (q4 + 1)]) (S := []) (t := 81) dX11_best_30 mk_X11_241 lc_81 (ci := 5) (q := (RX5, TX5, 10)) rfl rfl rfl rfl (Nat.le_of_ble_eq_true rfl) (by decide) (by decide) (Or.inl rfl) (tmX5_plan e7) ?_
    refine pr_aload_n dX11_best_33 rfl ?_
    refine pr_getR dX11_best_34 lk_X11_38 lc_0 rfl ?_
    refine pr_getI dX11_best_37 lk_X11_245 lc_81 rfl ?_
    have h := Option.some.inj h
    subst h
    exact pr_iret dX11_best_40 rfl
  · have h := pm_ng c_3 h
    refine pr_aload_n dX11_best_10 rfl ?_
    refine pr_iload_n dX11_best_11 rfl ?_
    obtain ⟨q8, e9, h⟩ := pm_bs h
    refine pr_callV (As := [pv_i q1]) (S := []) (t := 0) dX11_best_12 mk_X11_69 lc_0 (ci := 11) (q := (RX11, TX11, 11)) rfl rfl rfl rfl (Nat.le_of_ble_eq_true rfl) (by decide) (by decide) (Or.inl rfl) (tmX11_refuse e9) ?_
    have h := Option.some.inj h
    subst h
    exact pr_iret dX11_best_15 rfl
def fX11_bestWorth (x1 : Int) (σ : pm_M) : Option (Int × pm_M) :=
  (fX11_planRefusal x1 σ).bind fun q1 => if (wr q1) = 0 then ((fX10_today 15 σ).bind fun q4 => (fX5_plan x1 (q4 + 1) σ).bind fun q6 => some ((q6 81 9), q6)) else ((fX11_refuse q1 σ).bind fun q8 => some (q8.1, q8.2))
set_option maxHeartbeats 4000000 in
set_option maxRecDepth 100000 in
theorem tmX11_bestWorth {x1 : Int} {σ : pm_M} {ρ : Int × pm_M} (h : fX11_bestWorth x1 σ = some ρ) : pm_C mX11_bestWorth 4 97 [pv_r 0, pv_i x1] LAYC σ (some (pv_i ρ.1)) LAYC ρ.2 := by
  refine pm_C.of (by decide) rfl (Nat.le_of_ble_eq_true rfl) ?_
  show pm_J mX11_bestWorth 4 97 LAYC (some (pv_i ρ.1)) LAYC ρ.2 0 [some (pv_r 0), some (pv_i x1), none] [] LAYC σ
  unfold fX11_bestWorth at h
  refine pr_aload_n dX11_bestWorth_0 rfl ?_
  refine pr_iload_n dX11_bestWorth_1 rfl ?_
  obtain ⟨q1, e2, h⟩ := pm_bs h
  refine pr_callV (As := [pv_i x1]) (S := []) (t := 0) dX11_bestWorth_2 mk_X11_238 lc_0 (ci := 11) (q := (RX11, TX11, 11)) rfl rfl rfl rfl (Nat.le_of_ble_eq_true rfl) (by decide) (by decide) (Or.inl rfl) (tmX11_planRefusal e2) ?_
  refine pr_istore_n dX11_bestWorth_5 (by decide) rfl ?_
  refine pr_iload_n dX11_bestWorth_6 rfl ?_
  refine pr_if_eq (tgt := 16) dX11_bestWorth_7 rfl (by decide) (fun c_3 => ?_) (fun c_3 => ?_)
  · have h := pm_pos c_3 h
    refine pr_aload_n dX11_bestWorth_16 rfl ?_
    refine pr_getR dX11_bestWorth_17 lk_X11_38 lc_0 rfl ?_
    refine pr_iload_n dX11_bestWorth_20 rfl ?_
    refine pr_aload_n dX11_bestWorth_21 rfl ?_
    refine pr_getR dX11_bestWorth_22 lk_X11_28 lc_0 rfl ?_
    obtain ⟨q4, e5, h⟩ := pm_bs h
    refine pr_callV (As := []) (S := [pv_i x1, pv_r 81]) (t := 15) dX11_bestWorth_25 mk_X11_228 lc_15 (ci := 10) (q := (RX10, TX10, 8)) rfl rfl rfl rfl (Nat.le_of_ble_eq_true rfl) (by decide) (by decide) (Or.inl rfl) (tmX10_today (Or.inl rfl) e5) ?_
    refine pr_iconst dX11_bestWorth_28 ?_
    refine pr_iadd dX11_bestWorth_29 ?_
    obtain ⟨q6, e7, h⟩ := pm_bs h
    refine pr_callV (As := [pv_i x1, pv_i (q4 + 1)]) (S := []) (t := 81) dX11_bestWorth_30 mk_X11_241 lc_81 (ci := 5) (q := (RX5, TX5, 10)) rfl rfl rfl rfl (Nat.le_of_ble_eq_true rfl) (by decide) (by decide) (Or.inl rfl) (tmX5_plan e7) ?_
    refine pr_aload_n dX11_bestWorth_33 rfl ?_
    refine pr_getR dX11_bestWorth_34 lk_X11_38 lc_0 rfl ?_
    refine pr_getI dX11_bestWorth_37 lk_X11_248 lc_81 rfl ?_
    have h := Option.some.inj h
    subst h
    exact pr_iret dX11_bestWorth_40 rfl
  · have h := pm_ng c_3 h
    refine pr_aload_n dX11_bestWorth_10 rfl ?_
    refine pr_iload_n dX11_bestWorth_11 rfl ?_
    obtain ⟨q8, e9, h⟩ := pm_bs h
    refine pr_callV (As := [pv_i q1]) (S := []) (t := 0) dX11_bestWorth_12 mk_X11_69 lc_0 (ci := 11) (q := (RX11, TX11, 11)) rfl rfl rfl rfl (Nat.le_of_ble_eq_true rfl) (by decide) (by decide) (Or.inl rfl) (tmX11_refuse e9) ?_
    have h := Option.some.inj h
    subst h
    exact pr_iret dX11_bestWorth_15 rfl
def fX11_hours (x1 : Int) (σ : pm_M) : Option (Int × pm_M) :=
  if 1 ≤ (wr x1) then (if (wr x1) ≤ (wr (2400 - (σ 15 7))) then ((fX10_pass 15 x1 σ).bind fun q3 => some (((q3 26 8) - (σ 26 8)), q3)) else ((fX11_refuse (-6) σ).bind fun q5 => some (q5.1, q5.2))) else ((fX11_refuse (-4) σ).bind fun q7 => some (q7.1, q7.2))
set_option maxHeartbeats 4000000 in
set_option maxRecDepth 100000 in
theorem tmX11_hours {x1 : Int} {σ : pm_M} {ρ : Int × pm_M} (h : fX11_hours x1 σ = some ρ) : pm_C mX11_hours 7 201 [pv_r 0, pv_i x1] LAYC σ (some (pv_i ρ.1)) LAYC ρ.2 := by
  refine pm_C.of (by decide) rfl (Nat.le_of_ble_eq_true rfl) ?_
  show pm_J mX11_hours 7 201 LAYC (some (pv_i ρ.1)) LAYC ρ.2 0 [some (pv_r 0), some (pv_i x1), none] [] LAYC σ
  unfold fX11_hours at h
  refine pr_iload_n dX11_hours_0 rfl ?_
  refine pr_iconst dX11_hours_1 ?_
  refine pr_icmp_ge (tgt := 12) dX11_hours_2 rfl (wr_eq (by decide) (by decide)) (by decide) (fun c_1 => ?_) (fun c_1 => ?_)
  · have h := pm_pos c_1 h
    refine pr_iload_n dX11_hours_12 rfl ?_
    refine pr_sipush dX11_hours_13 (by decide) ?_
    refine pr_aload_n dX11_hours_16 rfl ?_
    refine pr_getR dX11_hours_17 lk_X11_28 lc_0 rfl ?_
    refine pr_getI dX11_hours_20 lk_X11_109 lc_15 rfl ?_
    refine pr_isub dX11_hours_23 ?_
    refine pr_icmp_le (tgt := 34) dX11_hours_24 rfl rfl (by decide) (fun c_2 => ?_) (fun c_2 => ?_)
    · have h := pm_pos c_2 h
      refine pr_aload_n dX11_hours_34 rfl ?_
      refine pr_getR dX11_hours_35 lk_X11_28 lc_0 rfl ?_
      refine pr_getR dX11_hours_38 lk_X11_44 lc_15 rfl ?_
      refine pr_getI dX11_hours_41 lk_X11_193 lc_26 rfl ?_
      refine pr_istore_n dX11_hours_44 (by decide) rfl ?_
      refine pr_aload_n dX11_hours_45 rfl ?_
      refine pr_getR dX11_hours_46 lk_X11_28 lc_0 rfl ?_
      refine pr_iload_n dX11_hours_49 rfl ?_
      obtain ⟨q3, e4, h⟩ := pm_bs h
      refine pr_callV (As := [pv_i x1]) (S := []) (t := 15) dX11_hours_50 mk_X11_251 lc_15 (ci := 10) (q := (RX10, TX10, 8)) rfl rfl rfl rfl (Nat.le_of_ble_eq_true rfl) (by decide) (by decide) (Or.inl rfl) (tmX10_pass (Or.inl rfl) e4) ?_
      refine pr_aload_n dX11_hours_53 rfl ?_
      refine pr_getR dX11_hours_54 lk_X11_28 lc_0 rfl ?_
      refine pr_getR dX11_hours_57 lk_X11_44 lc_15 rfl ?_
      refine pr_getI dX11_hours_60 lk_X11_193 lc_26 rfl ?_
      refine pr_iload_n dX11_hours_63 rfl ?_
      refine pr_isub dX11_hours_64 ?_
      have h := Option.some.inj h
      subst h
      exact pr_iret dX11_hours_65 rfl
    · have h := pm_ng c_2 h
      refine pr_aload_n dX11_hours_27 rfl ?_
      refine pr_bipush dX11_hours_28 (by decide) ?_
      obtain ⟨q5, e6, h⟩ := pm_bs h
      refine pr_callV (As := [pv_i (-6)]) (S := []) (t := 0) dX11_hours_30 mk_X11_69 lc_0 (ci := 11) (q := (RX11, TX11, 11)) rfl rfl rfl rfl (Nat.le_of_ble_eq_true rfl) (by decide) (by decide) (Or.inl rfl) (tmX11_refuse e6) ?_
      have h := Option.some.inj h
      subst h
      exact pr_iret dX11_hours_33 rfl
  · have h := pm_ng c_1 h
    refine pr_aload_n dX11_hours_5 rfl ?_
    refine pr_bipush dX11_hours_6 (by decide) ?_
    obtain ⟨q7, e8, h⟩ := pm_bs h
    refine pr_callV (As := [pv_i (-4)]) (S := []) (t := 0) dX11_hours_8 mk_X11_69 lc_0 (ci := 11) (q := (RX11, TX11, 11)) rfl rfl rfl rfl (Nat.le_of_ble_eq_true rfl) (by decide) (by decide) (Or.inl rfl) (tmX11_refuse e8) ?_
    have h := Option.some.inj h
    subst h
    exact pr_iret dX11_hours_11 rfl
def fX11_foretell (x1 : Int) (x2 : Int) (σ : pm_M) : Option (Int × pm_M) :=
  (fX11_isNumber x2 5).bind fun q1 => if (wr q1) = 0 then ((fX11_refuse (-2) σ).bind fun q20 => some (q20.1, q20.2)) else (if 1 ≤ (wr x1) then (if 240 < (wr x1) then ((fX11_refuse (-6) σ).bind fun q6 => some (q6.1, q6.2)) else (if (wr x1) ≤ (wr (2400 - (σ 15 7))) then ((fX10_become σ).bind fun q9 => (fX10_pass 48 x1 q9).bind fun q11 => if (wr x2) = 0 then (some ((q11 59 8), q11)) else (if (wr x2) = 1 then (some ((q11 59 10), q11)) else (if (wr x2) = 2 then (some ((q11 70 8), q11)) else (if (wr x2) = 3 then (some ((q11 76 6), q11)) else ((fX10_pulpOfAll 48 q11).bind fun q13 => some (q13, q11)))))) else ((fX11_refuse (-6) σ).bind fun q16 => some (q16.1, q16.2)))) else ((fX11_refuse (-4) σ).bind fun q18 => some (q18.1, q18.2)))
set_option maxHeartbeats 4000000 in
set_option maxRecDepth 100000 in
theorem tmX11_foretell {x1 : Int} {x2 : Int} {σ : pm_M} {ρ : Int × pm_M} (h : fX11_foretell x1 x2 σ = some ρ) : pm_C mX11_foretell 7 201 [pv_r 0, pv_i x1, pv_i x2] LAYC σ (some (pv_i ρ.1)) LAYC ρ.2 := by
  refine pm_C.of (by decide) rfl (Nat.le_of_ble_eq_true rfl) ?_
  show pm_J mX11_foretell 7 201 LAYC (some (pv_i ρ.1)) LAYC ρ.2 0 [some (pv_r 0), some (pv_i x1), some (pv_i x2)] [] LAYC σ
  unfold fX11_foretell at h
  refine pr_iload_n dX11_foretell_0 rfl ?_
  refine pr_iconst dX11_foretell_1 ?_
  obtain ⟨q1, e2, h⟩ := pm_bs h
  refine pr_callS (av := [pv_i x2, pv_i 5]) (S := []) dX11_foretell_2 mk_X11_65 rfl rfl (Nat.le_of_ble_eq_true rfl) (by decide) (by decide) (Or.inl rfl) (tmX11_isNumber e2) ?_
  refine pr_if_ne (tgt := 15) dX11_foretell_5 rfl (by decide) (fun c_3 => ?_) (fun c_3 => ?_)
  · have h := pm_ng c_3 h
    refine pr_iload_n dX11_foretell_15 rfl ?_
    refine pr_iconst dX11_foretell_16 ?_
    refine pr_icmp_ge (tgt := 27) dX11_foretell_17 rfl (wr_eq (by decide) (by decide)) (by decide) (fun c_4 => ?_) (fun c_4 => ?_)
    · have h := pm_pos c_4 h
      refine pr_iload_n dX11_foretell_27 rfl ?_
      refine pr_sipush dX11_foretell_28 (by decide) ?_
      refine pr_icmp_gt (tgt := 49) dX11_foretell_31 rfl (wr_eq (by decide) (by decide)) (by decide) (fun c_5 => ?_) (fun c_5 => ?_)
      · have h := pm_pos c_5 h
        refine pr_aload_n dX11_foretell_49 rfl ?_
        refine pr_bipush dX11_foretell_50 (by decide) ?_
        obtain ⟨q6, e7, h⟩ := pm_bs h
        refine pr_callV (As := [pv_i (-6)]) (S := []) (t := 0) dX11_foretell_52 mk_X11_69 lc_0 (ci := 11) (q := (RX11, TX11, 11)) rfl rfl rfl rfl (Nat.le_of_ble_eq_true rfl) (by decide) (by decide) (Or.inl rfl) (tmX11_refuse e7) ?_
        have h := Option.some.inj h
        subst h
        exact pr_iret dX11_foretell_55 rfl
      · have h := pm_ng c_5 h
        refine pr_iload_n dX11_foretell_34 rfl ?_
        refine pr_sipush dX11_foretell_35 (by decide) ?_
        refine pr_aload_n dX11_foretell_38 rfl ?_
        refine pr_getR dX11_foretell_39 lk_X11_28 lc_0 rfl ?_
        refine pr_getI dX11_foretell_42 lk_X11_109 lc_15 rfl ?_
        refine pr_isub dX11_foretell_45 ?_
        refine pr_icmp_le (tgt := 56) dX11_foretell_46 rfl rfl (by decide) (fun c_8 => ?_) (fun c_8 => ?_)
        · have h := pm_pos c_8 h
          refine pr_aload_n dX11_foretell_56 rfl ?_
          refine pr_getR dX11_foretell_57 lk_X11_32 lc_0 rfl ?_
          refine pr_aload_n dX11_foretell_60 rfl ?_
          refine pr_getR dX11_foretell_61 lk_X11_28 lc_0 rfl ?_
          obtain ⟨q9, e10, h⟩ := pm_bs h
          refine pr_callV (As := [pv_r 15]) (S := []) (t := 48) dX11_foretell_64 mk_X11_255 lc_48 (ci := 10) (q := (RX10, TX10, 8)) rfl rfl rfl rfl (Nat.le_of_ble_eq_true rfl) (by decide) (by decide) (Or.inl rfl) (tmX10_become e10) ?_
          refine pr_aload_n dX11_foretell_67 rfl ?_
          refine pr_getR dX11_foretell_68 lk_X11_32 lc_0 rfl ?_
          refine pr_iload_n dX11_foretell_71 rfl ?_
          obtain ⟨q11, e12, h⟩ := pm_bs h
          refine pr_callV (As := [pv_i x1]) (S := []) (t := 48) dX11_foretell_72 mk_X11_251 lc_48 (ci := 10) (q := (RX10, TX10, 8)) rfl rfl rfl rfl (Nat.le_of_ble_eq_true rfl) (by decide) (by decide) (Or.inl rfl) (tmX10_pass (Or.inr rfl) e12) ?_
          refine pr_iload_n dX11_foretell_75 rfl ?_
          by_cases c_15_0 : (wr x2) = 0
          · have h := pm_pos c_15_0 h
            refine pr_tsIn (j := 0) (tgt := 108) dX11_foretell_76 rfl (c_15_0.trans (by decide)) (by decide) rfl (by decide) ?_
            refine pr_aload_n dX11_foretell_108 rfl ?_
            refine pr_getR dX11_foretell_109 lk_X11_32 lc_0 rfl ?_
            refine pr_getR dX11_foretell_112 lk_X11_44 lc_48 rfl ?_
            refine pr_getI dX11_foretell_115 lk_X11_193 lc_59 rfl ?_
            have h := Option.some.inj h
            subst h
            exact pr_iret dX11_foretell_118 rfl
          · have h := pm_ng c_15_0 h
            by_cases c_15_1 : (wr x2) = 1
            · have h := pm_pos c_15_1 h
              refine pr_tsIn (j := 1) (tgt := 119) dX11_foretell_76 rfl (c_15_1.trans (by decide)) (by decide) rfl (by decide) ?_
              refine pr_aload_n dX11_foretell_119 rfl ?_
              refine pr_getR dX11_foretell_120 lk_X11_32 lc_0 rfl ?_
              refine pr_getR dX11_foretell_123 lk_X11_44 lc_48 rfl ?_
              refine pr_getI dX11_foretell_126 lk_X11_202 lc_59 rfl ?_
              have h := Option.some.inj h
              subst h
              exact pr_iret dX11_foretell_129 rfl
            · have h := pm_ng c_15_1 h
              by_cases c_15_2 : (wr x2) = 2
              · have h := pm_pos c_15_2 h
                refine pr_tsIn (j := 2) (tgt := 130) dX11_foretell_76 rfl (c_15_2.trans (by decide)) (by decide) rfl (by decide) ?_
                refine pr_aload_n dX11_foretell_130 rfl ?_
                refine pr_getR dX11_foretell_131 lk_X11_32 lc_0 rfl ?_
                refine pr_getR dX11_foretell_134 lk_X11_157 lc_48 rfl ?_
                refine pr_getI dX11_foretell_137 lk_X11_259 lc_70 rfl ?_
                have h := Option.some.inj h
                subst h
                exact pr_iret dX11_foretell_140 rfl
              · have h := pm_ng c_15_2 h
                by_cases c_15_3 : (wr x2) = 3
                · have h := pm_pos c_15_3 h
                  refine pr_tsIn (j := 3) (tgt := 141) dX11_foretell_76 rfl (c_15_3.trans (by decide)) (by decide) rfl (by decide) ?_
                  refine pr_aload_n dX11_foretell_141 rfl ?_
                  refine pr_getR dX11_foretell_142 lk_X11_32 lc_0 rfl ?_
                  refine pr_getR dX11_foretell_145 lk_X11_99 lc_48 rfl ?_
                  refine pr_getI dX11_foretell_148 lk_X11_262 lc_76 rfl ?_
                  have h := Option.some.inj h
                  subst h
                  exact pr_iret dX11_foretell_151 rfl
                · have h := pm_ng c_15_3 h
                  refine pr_tsOut (tgt := 152) dX11_foretell_76 rfl (by omega) (by decide) ?_
                  refine pr_aload_n dX11_foretell_152 rfl ?_
                  refine pr_getR dX11_foretell_153 lk_X11_32 lc_0 rfl ?_
                  obtain ⟨q13, e14, h⟩ := pm_bs h
                  refine pr_callV (As := []) (S := []) (t := 48) dX11_foretell_156 mk_X11_265 lc_48 (ci := 10) (q := (RX10, TX10, 8)) rfl rfl rfl rfl (Nat.le_of_ble_eq_true rfl) (by decide) (by decide) (Or.inl rfl) (tmX10_pulpOfAll (Or.inr rfl) e14) ?_
                  have h := Option.some.inj h
                  subst h
                  exact pr_iret dX11_foretell_159 rfl
        · have h := pm_ng c_8 h
          refine pr_aload_n dX11_foretell_49 rfl ?_
          refine pr_bipush dX11_foretell_50 (by decide) ?_
          obtain ⟨q16, e17, h⟩ := pm_bs h
          refine pr_callV (As := [pv_i (-6)]) (S := []) (t := 0) dX11_foretell_52 mk_X11_69 lc_0 (ci := 11) (q := (RX11, TX11, 11)) rfl rfl rfl rfl (Nat.le_of_ble_eq_true rfl) (by decide) (by decide) (Or.inl rfl) (tmX11_refuse e17) ?_
          have h := Option.some.inj h
          subst h
          exact pr_iret dX11_foretell_55 rfl
    · have h := pm_ng c_4 h
      refine pr_aload_n dX11_foretell_20 rfl ?_
      refine pr_bipush dX11_foretell_21 (by decide) ?_
      obtain ⟨q18, e19, h⟩ := pm_bs h
      refine pr_callV (As := [pv_i (-4)]) (S := []) (t := 0) dX11_foretell_23 mk_X11_69 lc_0 (ci := 11) (q := (RX11, TX11, 11)) rfl rfl rfl rfl (Nat.le_of_ble_eq_true rfl) (by decide) (by decide) (Or.inl rfl) (tmX11_refuse e19) ?_
      have h := Option.some.inj h
      subst h
      exact pr_iret dX11_foretell_26 rfl
  · have h := pm_pos c_3 h
    refine pr_aload_n dX11_foretell_8 rfl ?_
    refine pr_bipush dX11_foretell_9 (by decide) ?_
    obtain ⟨q20, e21, h⟩ := pm_bs h
    refine pr_callV (As := [pv_i (-2)]) (S := []) (t := 0) dX11_foretell_11 mk_X11_69 lc_0 (ci := 11) (q := (RX11, TX11, 11)) rfl rfl rfl rfl (Nat.le_of_ble_eq_true rfl) (by decide) (by decide) (Or.inl rfl) (tmX11_refuse e21) ?_
    have h := Option.some.inj h
    subst h
    exact pr_iret dX11_foretell_14 rfl
def bdX11_when_55 (y1 : Int) (y3 : Int) (z2 : Int) (σ : pm_M) : Option ((Int × pm_M) ⊕ (Int × pm_M)) :=
  if (wr y3) ≤ (wr z2) then (some (.inl (z2, σ))) else (if (wr y1) ≤ (wr (σ 59 10)) then (some (.inl (z2, σ))) else ((fX10_pass 48 1 σ).bind fun q7 => some (.inr ((z2 + 1), q7))))
set_option maxHeartbeats 4000000 in
set_option maxRecDepth 100000 in
theorem tbX11_when_55 {lay0 lay' : List pm_S} {r : Option pm_V} {σ' : pm_M} (y1 : Int) (y3 : Int) : ∀ (a : Int × pm_M) (e : (Int × pm_M) ⊕ (Int × pm_M)), (fun a => bdX11_when_55 y1 y3 a.1 a.2) a = some e → (∀ a, e = .inr a → (fun a => pm_J mX11_when 7 201 lay0 r lay' σ' 55 [some (pv_r 0), some (pv_i y1), some (pv_i a.1), some (pv_i y3)] [] LAYC a.2) a) → (∀ a, e = .inl a → (fun a => pm_J mX11_when 7 201 lay0 r lay' σ' 88 [some (pv_r 0), some (pv_i y1), some (pv_i a.1), none] [] LAYC a.2) a) → (fun a => pm_J mX11_when 7 201 lay0 r lay' σ' 55 [some (pv_r 0), some (pv_i y1), some (pv_i a.1), some (pv_i y3)] [] LAYC a.2) a := by
  intro a e h hc hx
  obtain ⟨z2, σ⟩ := a
  have h : bdX11_when_55 y1 y3 z2 σ = some e := h
  unfold bdX11_when_55 at h
  show pm_J mX11_when 7 201 lay0 r lay' σ' 55 [some (pv_r 0), some (pv_i y1), some (pv_i z2), some (pv_i y3)] [] LAYC σ
  refine pr_iload_n dX11_when_55 rfl ?_
  refine pr_iload_n dX11_when_56 rfl ?_
  refine pr_icmp_ge (tgt := 88) dX11_when_57 rfl rfl (by decide) (fun c_5 => ?_) (fun c_5 => ?_)
  · have h := pm_pos c_5 h
    refine pr_weak (L2 := [some (pv_r 0), some (pv_i y1), some (pv_i z2), none]) ⟨Or.inr rfl, Or.inr rfl, Or.inr rfl, Or.inl rfl, trivial⟩ ?_
    exact hx (z2, σ) (Option.some.inj h).symm
  · have h := pm_ng c_5 h
    refine pr_aload_n dX11_when_60 rfl ?_
    refine pr_getR dX11_when_61 lk_X11_32 lc_0 rfl ?_
    refine pr_getR dX11_when_64 lk_X11_44 lc_48 rfl ?_
    refine pr_getI dX11_when_67 lk_X11_202 lc_59 rfl ?_
    refine pr_iload_n dX11_when_70 rfl ?_
    refine pr_icmp_ge (tgt := 88) dX11_when_71 rfl rfl (by decide) (fun c_6 => ?_) (fun c_6 => ?_)
    · have h := pm_pos c_6 h
      refine pr_weak (L2 := [some (pv_r 0), some (pv_i y1), some (pv_i z2), none]) ⟨Or.inr rfl, Or.inr rfl, Or.inr rfl, Or.inl rfl, trivial⟩ ?_
      exact hx (z2, σ) (Option.some.inj h).symm
    · have h := pm_ng c_6 h
      refine pr_aload_n dX11_when_74 rfl ?_
      refine pr_getR dX11_when_75 lk_X11_32 lc_0 rfl ?_
      refine pr_iconst dX11_when_78 ?_
      obtain ⟨q7, e8, h⟩ := pm_bs h
      refine pr_callV (As := [pv_i 1]) (S := []) (t := 48) dX11_when_79 mk_X11_251 lc_48 (ci := 10) (q := (RX10, TX10, 8)) rfl rfl rfl rfl (Nat.le_of_ble_eq_true rfl) (by decide) (by decide) (Or.inl rfl) (tmX10_pass (Or.inr rfl) e8) ?_
      refine pr_iinc dX11_when_82 rfl (by decide) rfl ?_
      refine pr_goto (tgt := 55) dX11_when_85 (by decide) ?_
      refine pr_weak (L2 := [some (pv_r 0), some (pv_i y1), some (pv_i (z2 + 1)), some (pv_i y3)]) ⟨Or.inr rfl, Or.inr rfl, Or.inr rfl, Or.inr rfl, trivial⟩ ?_
      exact hc ((z2 + 1), q7) (Option.some.inj h).symm
def jnX11_when_88 (w1 : Int) (w2 : Int) (σ : pm_M) : Option (Int × pm_M) :=
  if (wr (σ 59 10)) < (wr w1) then (some ((-9), σ)) else (some (w2, σ))
set_option maxHeartbeats 4000000 in
set_option maxRecDepth 100000 in
theorem tjX11_when_88 {lay0 : List pm_S} {w1 : Int} {w2 : Int} {σ : pm_M} {ρ : Int × pm_M} (h : jnX11_when_88 w1 w2 σ = some ρ) : pm_J mX11_when 7 201 lay0 (some (pv_i ρ.1)) LAYC ρ.2 88 [some (pv_r 0), some (pv_i w1), some (pv_i w2), none] [] LAYC σ := by
  unfold jnX11_when_88 at h
  refine pr_aload_n dX11_when_88 rfl ?_
  refine pr_getR dX11_when_89 lk_X11_32 lc_0 rfl ?_
  refine pr_getR dX11_when_92 lk_X11_44 lc_48 rfl ?_
  refine pr_getI dX11_when_95 lk_X11_202 lc_59 rfl ?_
  refine pr_iload_n dX11_when_98 rfl ?_
  refine pr_icmp_lt (tgt := 106) dX11_when_99 rfl rfl (by decide) (fun c_11 => ?_) (fun c_11 => ?_)
  · have h := pm_pos c_11 h
    refine pr_bipush dX11_when_106 (by decide) ?_
    have h := Option.some.inj h
    subst h
    exact pr_iret dX11_when_108 rfl
  · have h := pm_ng c_11 h
    refine pr_iload_n dX11_when_102 rfl ?_
    refine pr_goto (tgt := 108) dX11_when_103 (by decide) ?_
    have h := Option.some.inj h
    subst h
    exact pr_iret dX11_when_108 rfl
def fX11_when (x1 : Int) (σ : pm_M) : Option (Int × pm_M) :=
  if 0 ≤ (wr x1) then (if (wr x1) ≤ 80 then ((fX10_become σ).bind fun q3 => (pm_it (fun a => bdX11_when_55 x1 (pm_min ((q3 15 7) + 240) 2400) a.1 a.2) pm_fuel ((q3 15 7), q3)).bind fun v9 => jnX11_when_88 x1 v9.1 v9.2) else ((fX11_refuse (-6) σ).bind fun q12 => some (q12.1, q12.2))) else ((fX11_refuse (-4) σ).bind fun q14 => some (q14.1, q14.2))
set_option maxHeartbeats 4000000 in
set_option maxRecDepth 100000 in
theorem tmX11_when {x1 : Int} {σ : pm_M} {ρ : Int × pm_M} (h : fX11_when x1 σ = some ρ) : pm_C mX11_when 7 201 [pv_r 0, pv_i x1] LAYC σ (some (pv_i ρ.1)) LAYC ρ.2 := by
  refine pm_C.of (by decide) rfl (Nat.le_of_ble_eq_true rfl) ?_
  show pm_J mX11_when 7 201 LAYC (some (pv_i ρ.1)) LAYC ρ.2 0 [some (pv_r 0), some (pv_i x1), none, none] [] LAYC σ
  unfold fX11_when at h
  refine pr_iload_n dX11_when_0 rfl ?_
  refine pr_if_ge (tgt := 11) dX11_when_1 rfl (by decide) (fun c_1 => ?_) (fun c_1 => ?_)
  · have h := pm_pos c_1 h
    refine pr_iload_n dX11_when_11 rfl ?_
    refine pr_bipush dX11_when_12 (by decide) ?_
    refine pr_icmp_le (tgt := 24) dX11_when_14 rfl (wr_eq (by decide) (by decide)) (by decide) (fun c_2 => ?_) (fun c_2 => ?_)
    · have h := pm_pos c_2 h
      refine pr_aload_n dX11_when_24 rfl ?_
      refine pr_getR dX11_when_25 lk_X11_32 lc_0 rfl ?_
      refine pr_aload_n dX11_when_28 rfl ?_
      refine pr_getR dX11_when_29 lk_X11_28 lc_0 rfl ?_
      obtain ⟨q3, e4, h⟩ := pm_bs h
      refine pr_callV (As := [pv_r 15]) (S := []) (t := 48) dX11_when_32 mk_X11_255 lc_48 (ci := 10) (q := (RX10, TX10, 8)) rfl rfl rfl rfl (Nat.le_of_ble_eq_true rfl) (by decide) (by decide) (Or.inl rfl) (tmX10_become e4) ?_
      refine pr_aload_n dX11_when_35 rfl ?_
      refine pr_getR dX11_when_36 lk_X11_28 lc_0 rfl ?_
      refine pr_getI dX11_when_39 lk_X11_109 lc_15 rfl ?_
      refine pr_istore_n dX11_when_42 (by decide) rfl ?_
      refine pr_iload_n dX11_when_43 rfl ?_
      refine pr_sipush dX11_when_44 (by decide) ?_
      refine pr_iadd dX11_when_47 ?_
      refine pr_sipush dX11_when_48 (by decide) ?_
      refine pr_mmin dX11_when_51 mm_X11_268 (by decide) (Nat.le_of_ble_eq_true rfl) ?_
      refine pr_istore_n dX11_when_54 (by decide) rfl ?_
      obtain ⟨v9, e10, h⟩ := pm_bs h
      refine pr_weak (L2 := [some (pv_r 0), some (pv_i x1), some (pv_i (q3 15 7)), some (pv_i (pm_min ((q3 15 7) + 240) 2400))]) ⟨Or.inr rfl, Or.inr rfl, Or.inr rfl, Or.inr rfl, trivial⟩ ?_
      refine pm_it_J (α := Int × pm_M) (β := Int × pm_M) (f := fun a => bdX11_when_55 x1 (pm_min ((q3 15 7) + 240) 2400) a.1 a.2) (P := fun a => pm_J mX11_when 7 201 LAYC (some (pv_i ρ.1)) LAYC ρ.2 55 [some (pv_r 0), some (pv_i x1), some (pv_i a.1), some (pv_i (pm_min ((q3 15 7) + 240) 2400))] [] LAYC a.2) (Rx := fun a => pm_J mX11_when 7 201 LAYC (some (pv_i ρ.1)) LAYC ρ.2 88 [some (pv_r 0), some (pv_i x1), some (pv_i a.1), none] [] LAYC a.2) (tbX11_when_55 x1 (pm_min ((q3 15 7) + 240) 2400)) pm_fuel ((q3 15 7), q3) v9 e10 ?_
      show pm_J mX11_when 7 201 LAYC (some (pv_i ρ.1)) LAYC ρ.2 88 [some (pv_r 0), some (pv_i x1), some (pv_i v9.1), none] [] LAYC v9.2
      refine pr_weak (L2 := [some (pv_r 0), some (pv_i x1), some (pv_i v9.1), none]) ⟨Or.inr rfl, Or.inr rfl, Or.inr rfl, Or.inl rfl, trivial⟩ ?_
      exact tjX11_when_88 h
    · have h := pm_ng c_2 h
      refine pr_aload_n dX11_when_17 rfl ?_
      refine pr_bipush dX11_when_18 (by decide) ?_
      obtain ⟨q12, e13, h⟩ := pm_bs h
      refine pr_callV (As := [pv_i (-6)]) (S := []) (t := 0) dX11_when_20 mk_X11_69 lc_0 (ci := 11) (q := (RX11, TX11, 11)) rfl rfl rfl rfl (Nat.le_of_ble_eq_true rfl) (by decide) (by decide) (Or.inl rfl) (tmX11_refuse e13) ?_
      have h := Option.some.inj h
      subst h
      exact pr_iret dX11_when_23 rfl
  · have h := pm_ng c_1 h
    refine pr_aload_n dX11_when_4 rfl ?_
    refine pr_bipush dX11_when_5 (by decide) ?_
    obtain ⟨q14, e15, h⟩ := pm_bs h
    refine pr_callV (As := [pv_i (-4)]) (S := []) (t := 0) dX11_when_7 mk_X11_69 lc_0 (ci := 11) (q := (RX11, TX11, 11)) rfl rfl rfl rfl (Nat.le_of_ble_eq_true rfl) (by decide) (by decide) (Or.inl rfl) (tmX11_refuse e15) ?_
    have h := Option.some.inj h
    subst h
    exact pr_iret dX11_when_10 rfl
