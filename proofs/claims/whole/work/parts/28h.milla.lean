def fX11_span (x1 : Int) (x2 : Int) (x3 : Int) (σ : pm_M) : Option (Int × pm_M) :=
  (fX11_isMould x1 σ).bind fun q1 => if (wr q1) = 0 then ((fX11_refuse (-1) σ).bind fun q12 => some (q12.1, q12.2)) else (if 0 ≤ (wr x2) then (if (wr x2) ≤ 99 then ((fX4_hourOf x1 x2 x3 σ).bind fun q6 => some (q6, σ)) else ((fX11_refuse (-6) σ).bind fun q8 => some (q8.1, q8.2))) else ((fX11_refuse (-4) σ).bind fun q10 => some (q10.1, q10.2)))
set_option maxHeartbeats 4000000 in
set_option maxRecDepth 100000 in
theorem tmX11_span {x1 : Int} {x2 : Int} {x3 : Int} {σ : pm_M} {ρ : Int × pm_M} (h : fX11_span x1 x2 x3 σ = some ρ) : pm_C mX11_span 5 119 [pv_r 0, pv_i x1, pv_i x2, pv_i x3] LAYC σ (some (pv_i ρ.1)) LAYC ρ.2 := by
  refine pm_C.of (by decide) rfl (Nat.le_of_ble_eq_true rfl) ?_
  show pm_J mX11_span 5 119 LAYC (some (pv_i ρ.1)) LAYC ρ.2 0 [some (pv_r 0), some (pv_i x1), some (pv_i x2), some (pv_i x3)] [] LAYC σ
  unfold fX11_span at h
  refine pr_aload_n dX11_span_0 rfl ?_
  refine pr_iload_n dX11_span_1 rfl ?_
  obtain ⟨q1, e2, h⟩ := pm_bs h
  refine pr_callV (As := [pv_i x1]) (S := []) (t := 0) dX11_span_2 mk_X11_154 lc_0 (ci := 11) (q := (RX11, TX11, 11)) rfl rfl rfl rfl (Nat.le_of_ble_eq_true rfl) (by decide) (by decide) (Or.inl rfl) (tmX11_isMould e2) ?_
  refine pr_if_ne (tgt := 14) dX11_span_5 rfl (by decide) (fun c_3 => ?_) (fun c_3 => ?_)
  · have h := pm_ng c_3 h
    refine pr_iload_n dX11_span_14 rfl ?_
    refine pr_if_ge (tgt := 25) dX11_span_15 rfl (by decide) (fun c_4 => ?_) (fun c_4 => ?_)
    · have h := pm_pos c_4 h
      refine pr_iload_n dX11_span_25 rfl ?_
      refine pr_bipush dX11_span_26 (by decide) ?_
      refine pr_icmp_le (tgt := 38) dX11_span_28 rfl (wr_eq (by decide) (by decide)) (by decide) (fun c_5 => ?_) (fun c_5 => ?_)
      · have h := pm_pos c_5 h
        refine pr_aload_n dX11_span_38 rfl ?_
        refine pr_getR dX11_span_39 lk_X11_51 lc_0 rfl ?_
        refine pr_iload_n dX11_span_42 rfl ?_
        refine pr_iload_n dX11_span_43 rfl ?_
        refine pr_iload_n dX11_span_44 rfl ?_
        obtain ⟨q6, e7, h⟩ := pm_bs h
        refine pr_callV (As := [pv_i x1, pv_i x2, pv_i x3]) (S := []) (t := 89) dX11_span_45 mk_X11_305 lc_89 (ci := 4) (q := (RX4, TX4, 5)) rfl rfl rfl rfl (Nat.le_of_ble_eq_true rfl) (by decide) (by decide) (Or.inl rfl) (tmX4_hourOf e7) ?_
        have h := Option.some.inj h
        subst h
        exact pr_iret dX11_span_48 rfl
      · have h := pm_ng c_5 h
        refine pr_aload_n dX11_span_31 rfl ?_
        refine pr_bipush dX11_span_32 (by decide) ?_
        obtain ⟨q8, e9, h⟩ := pm_bs h
        refine pr_callV (As := [pv_i (-6)]) (S := []) (t := 0) dX11_span_34 mk_X11_69 lc_0 (ci := 11) (q := (RX11, TX11, 11)) rfl rfl rfl rfl (Nat.le_of_ble_eq_true rfl) (by decide) (by decide) (Or.inl rfl) (tmX11_refuse e9) ?_
        have h := Option.some.inj h
        subst h
        exact pr_iret dX11_span_37 rfl
    · have h := pm_ng c_4 h
      refine pr_aload_n dX11_span_18 rfl ?_
      refine pr_bipush dX11_span_19 (by decide) ?_
      obtain ⟨q10, e11, h⟩ := pm_bs h
      refine pr_callV (As := [pv_i (-4)]) (S := []) (t := 0) dX11_span_21 mk_X11_69 lc_0 (ci := 11) (q := (RX11, TX11, 11)) rfl rfl rfl rfl (Nat.le_of_ble_eq_true rfl) (by decide) (by decide) (Or.inl rfl) (tmX11_refuse e11) ?_
      have h := Option.some.inj h
      subst h
      exact pr_iret dX11_span_24 rfl
  · have h := pm_pos c_3 h
    refine pr_aload_n dX11_span_8 rfl ?_
    refine pr_iconst dX11_span_9 ?_
    obtain ⟨q12, e13, h⟩ := pm_bs h
    refine pr_callV (As := [pv_i (-1)]) (S := []) (t := 0) dX11_span_10 mk_X11_69 lc_0 (ci := 11) (q := (RX11, TX11, 11)) rfl rfl rfl rfl (Nat.le_of_ble_eq_true rfl) (by decide) (by decide) (Or.inl rfl) (tmX11_refuse e13) ?_
    have h := Option.some.inj h
    subst h
    exact pr_iret dX11_span_13 rfl
def fX11_heapOf (x1 : Int) (x2 : Int) (σ : pm_M) : Option (Int × pm_M) :=
  (fX11_isNumber x1 (σ 43 5)).bind fun q1 => if (wr q1) = 0 then ((fX11_refuse (-1) σ).bind fun q15 => some (q15.1, q15.2)) else (if (wr x2) = 0 then (pm_g (0 ≤ (wr x1) ∧ (wr x1) < 40) (some ((σ 44 (Int.toNat (wr x1))), σ))) else (if (wr x2) = 1 then (pm_g (0 ≤ (wr x1) ∧ (wr x1) < 40) (some ((σ 45 (Int.toNat (wr x1))), σ))) else (if (wr x2) = 2 then ((fX1_ageOf 15 x1 (σ 15 7) σ).bind fun q11 => some (q11, σ)) else (if (wr x2) = 3 then ((fX1_isRipe 15 x1 (σ 15 7) σ).bind fun q8 => if (wr q8) = 0 then (some (0, σ)) else (some (1, σ))) else (if (wr x2) = 4 then (pm_g (0 ≤ (wr x1) ∧ (wr x1) < 40) (some ((σ 47 (Int.toNat (wr x1))), σ))) else ((fX11_refuse (-2) σ).bind fun q4 => some (q4.1, q4.2)))))))
set_option maxHeartbeats 4000000 in
set_option maxRecDepth 100000 in
theorem tmX11_heapOf {x1 : Int} {x2 : Int} {σ : pm_M} {ρ : Int × pm_M} (h : fX11_heapOf x1 x2 σ = some ρ) : pm_C mX11_heapOf 2 44 [pv_r 0, pv_i x1, pv_i x2] LAYC σ (some (pv_i ρ.1)) LAYC ρ.2 := by
  refine pm_C.of (by decide) rfl (Nat.le_of_ble_eq_true rfl) ?_
  show pm_J mX11_heapOf 2 44 LAYC (some (pv_i ρ.1)) LAYC ρ.2 0 [some (pv_r 0), some (pv_i x1), some (pv_i x2), none] [] LAYC σ
  unfold fX11_heapOf at h
  refine pr_aload_n dX11_heapOf_0 rfl ?_
  refine pr_getR dX11_heapOf_1 lk_X11_28 lc_0 rfl ?_
  refine pr_getR dX11_heapOf_4 lk_X11_99 lc_15 rfl ?_
  refine pr_astore_n dX11_heapOf_7 (by decide) rfl ?_
  refine pr_iload_n dX11_heapOf_8 rfl ?_
  refine pr_aload_n dX11_heapOf_9 rfl ?_
  refine pr_getI dX11_heapOf_10 lk_X11_103 lc_43 rfl ?_
  obtain ⟨q1, e2, h⟩ := pm_bs h
  refine pr_callS (av := [pv_i x1, pv_i (σ 43 5)]) (S := []) dX11_heapOf_13 mk_X11_65 rfl rfl (Nat.le_of_ble_eq_true rfl) (by decide) (by decide) (Or.inl rfl) (tmX11_isNumber e2) ?_
  refine pr_if_ne (tgt := 25) dX11_heapOf_16 rfl (by decide) (fun c_3 => ?_) (fun c_3 => ?_)
  · have h := pm_ng c_3 h
    refine pr_iload_n dX11_heapOf_25 rfl ?_
    by_cases c_6_0 : (wr x2) = 0
    · have h := pm_pos c_6_0 h
      refine pr_tsIn (j := 0) (tgt := 60) dX11_heapOf_26 rfl (c_6_0.trans (by decide)) (by decide) rfl (by decide) ?_
      refine pr_aload_n dX11_heapOf_60 rfl ?_
      refine pr_getR dX11_heapOf_61 lk_X11_132 lc_43 rfl ?_
      refine pr_iload_n dX11_heapOf_64 rfl ?_
      obtain ⟨g_14, h⟩ := pm_gs h
      refine pr_iald dX11_heapOf_65 lc_44 rfl g_14 ?_
      have h := Option.some.inj h
      subst h
      exact pr_iret dX11_heapOf_66 rfl
    · have h := pm_ng c_6_0 h
      by_cases c_6_1 : (wr x2) = 1
      · have h := pm_pos c_6_1 h
        refine pr_tsIn (j := 1) (tgt := 67) dX11_heapOf_26 rfl (c_6_1.trans (by decide)) (by decide) rfl (by decide) ?_
        refine pr_aload_n dX11_heapOf_67 rfl ?_
        refine pr_getR dX11_heapOf_68 lk_X11_129 lc_43 rfl ?_
        refine pr_iload_n dX11_heapOf_71 rfl ?_
        obtain ⟨g_13, h⟩ := pm_gs h
        refine pr_iald dX11_heapOf_72 lc_45 rfl g_13 ?_
        have h := Option.some.inj h
        subst h
        exact pr_iret dX11_heapOf_73 rfl
      · have h := pm_ng c_6_1 h
        by_cases c_6_2 : (wr x2) = 2
        · have h := pm_pos c_6_2 h
          refine pr_tsIn (j := 2) (tgt := 74) dX11_heapOf_26 rfl (c_6_2.trans (by decide)) (by decide) rfl (by decide) ?_
          refine pr_aload_n dX11_heapOf_74 rfl ?_
          refine pr_iload_n dX11_heapOf_75 rfl ?_
          refine pr_aload_n dX11_heapOf_76 rfl ?_
          refine pr_getR dX11_heapOf_77 lk_X11_28 lc_0 rfl ?_
          refine pr_getI dX11_heapOf_80 lk_X11_109 lc_15 rfl ?_
          obtain ⟨q11, e12, h⟩ := pm_bs h
          refine pr_callV (As := [pv_i x1, pv_i (σ 15 7)]) (S := []) (t := 43) dX11_heapOf_83 mk_X11_309 lc_43 (ci := 1) (q := (RX1, TX1, 7)) rfl rfl rfl rfl (Nat.le_of_ble_eq_true rfl) (by decide) (by decide) (Or.inl rfl) (tmX1_ageOf (Or.inl rfl) e12) ?_
          have h := Option.some.inj h
          subst h
          exact pr_iret dX11_heapOf_86 rfl
        · have h := pm_ng c_6_2 h
          by_cases c_6_3 : (wr x2) = 3
          · have h := pm_pos c_6_3 h
            refine pr_tsIn (j := 3) (tgt := 87) dX11_heapOf_26 rfl (c_6_3.trans (by decide)) (by decide) rfl (by decide) ?_
            refine pr_aload_n dX11_heapOf_87 rfl ?_
            refine pr_iload_n dX11_heapOf_88 rfl ?_
            refine pr_aload_n dX11_heapOf_89 rfl ?_
            refine pr_getR dX11_heapOf_90 lk_X11_28 lc_0 rfl ?_
            refine pr_getI dX11_heapOf_93 lk_X11_109 lc_15 rfl ?_
            obtain ⟨q8, e9, h⟩ := pm_bs h
            refine pr_callV (As := [pv_i x1, pv_i (σ 15 7)]) (S := []) (t := 43) dX11_heapOf_96 mk_X11_126 lc_43 (ci := 1) (q := (RX1, TX1, 7)) rfl rfl rfl rfl (Nat.le_of_ble_eq_true rfl) (by decide) (by decide) (Or.inl rfl) (tmX1_isRipe (Or.inl rfl) e9) ?_
            refine pr_if_eq (tgt := 106) dX11_heapOf_99 rfl (by decide) (fun c_10 => ?_) (fun c_10 => ?_)
            · have h := pm_pos c_10 h
              refine pr_iconst dX11_heapOf_106 ?_
              have h := Option.some.inj h
              subst h
              exact pr_iret dX11_heapOf_107 rfl
            · have h := pm_ng c_10 h
              refine pr_iconst dX11_heapOf_102 ?_
              refine pr_goto (tgt := 107) dX11_heapOf_103 (by decide) ?_
              have h := Option.some.inj h
              subst h
              exact pr_iret dX11_heapOf_107 rfl
          · have h := pm_ng c_6_3 h
            by_cases c_6_4 : (wr x2) = 4
            · have h := pm_pos c_6_4 h
              refine pr_tsIn (j := 4) (tgt := 108) dX11_heapOf_26 rfl (c_6_4.trans (by decide)) (by decide) rfl (by decide) ?_
              refine pr_aload_n dX11_heapOf_108 rfl ?_
              refine pr_getR dX11_heapOf_109 lk_X11_312 lc_43 rfl ?_
              refine pr_iload_n dX11_heapOf_112 rfl ?_
              obtain ⟨g_7, h⟩ := pm_gs h
              refine pr_iald dX11_heapOf_113 lc_47 rfl g_7 ?_
              have h := Option.some.inj h
              subst h
              exact pr_iret dX11_heapOf_114 rfl
            · have h := pm_ng c_6_4 h
              refine pr_tsOut (tgt := 115) dX11_heapOf_26 rfl (by omega) (by decide) ?_
              refine pr_aload_n dX11_heapOf_115 rfl ?_
              refine pr_bipush dX11_heapOf_116 (by decide) ?_
              obtain ⟨q4, e5, h⟩ := pm_bs h
              refine pr_callV (As := [pv_i (-2)]) (S := []) (t := 0) dX11_heapOf_118 mk_X11_69 lc_0 (ci := 11) (q := (RX11, TX11, 11)) rfl rfl rfl rfl (Nat.le_of_ble_eq_true rfl) (by decide) (by decide) (Or.inl rfl) (tmX11_refuse e5) ?_
              have h := Option.some.inj h
              subst h
              exact pr_iret dX11_heapOf_121 rfl
  · have h := pm_pos c_3 h
    refine pr_aload_n dX11_heapOf_19 rfl ?_
    refine pr_iconst dX11_heapOf_20 ?_
    obtain ⟨q15, e16, h⟩ := pm_bs h
    refine pr_callV (As := [pv_i (-1)]) (S := []) (t := 0) dX11_heapOf_21 mk_X11_69 lc_0 (ci := 11) (q := (RX11, TX11, 11)) rfl rfl rfl rfl (Nat.le_of_ble_eq_true rfl) (by decide) (by decide) (Or.inl rfl) (tmX11_refuse e16) ?_
    have h := Option.some.inj h
    subst h
    exact pr_iret dX11_heapOf_24 rfl
def fX11_beaterOf (x1 : Int) (x2 : Int) (σ : pm_M) : Option (Int × pm_M) :=
  (fX11_isNumber x1 4).bind fun q1 => if (wr q1) = 0 then ((fX11_refuse (-1) σ).bind fun q14 => some (q14.1, q14.2)) else (if (wr x2) = 0 then (pm_g (0 ≤ (wr x1) ∧ (wr x1) < 4) (some ((σ 18 (Int.toNat (wr x1))), σ))) else (if (wr x2) = 1 then ((fX0_isEmpty 15 x1 σ).bind fun q9 => if (wr q9) = 0 then (pm_g (0 ≤ (wr x1) ∧ (wr x1) < 4) (some ((σ 19 (Int.toNat (wr x1))), σ))) else (some ((-9), σ))) else (if (wr x2) = 2 then (pm_g (0 ≤ (wr x1) ∧ (wr x1) < 4) (some ((σ 20 (Int.toNat (wr x1))), σ))) else (if (wr x2) = 3 then (pm_g (0 ≤ (wr x1) ∧ (wr x1) < 4) (some ((σ 21 (Int.toNat (wr x1))), σ))) else ((fX11_refuse (-2) σ).bind fun q4 => some (q4.1, q4.2))))))
set_option maxHeartbeats 4000000 in
set_option maxRecDepth 100000 in
theorem tmX11_beaterOf {x1 : Int} {x2 : Int} {σ : pm_M} {ρ : Int × pm_M} (h : fX11_beaterOf x1 x2 σ = some ρ) : pm_C mX11_beaterOf 1 21 [pv_r 0, pv_i x1, pv_i x2] LAYC σ (some (pv_i ρ.1)) LAYC ρ.2 := by
  refine pm_C.of (by decide) rfl (Nat.le_of_ble_eq_true rfl) ?_
  show pm_J mX11_beaterOf 1 21 LAYC (some (pv_i ρ.1)) LAYC ρ.2 0 [some (pv_r 0), some (pv_i x1), some (pv_i x2), none] [] LAYC σ
  unfold fX11_beaterOf at h
  refine pr_iload_n dX11_beaterOf_0 rfl ?_
  refine pr_iconst dX11_beaterOf_1 ?_
  obtain ⟨q1, e2, h⟩ := pm_bs h
  refine pr_callS (av := [pv_i x1, pv_i 4]) (S := []) dX11_beaterOf_2 mk_X11_65 rfl rfl (Nat.le_of_ble_eq_true rfl) (by decide) (by decide) (Or.inl rfl) (tmX11_isNumber e2) ?_
  refine pr_if_ne (tgt := 14) dX11_beaterOf_5 rfl (by decide) (fun c_3 => ?_) (fun c_3 => ?_)
  · have h := pm_ng c_3 h
    refine pr_aload_n dX11_beaterOf_14 rfl ?_
    refine pr_getR dX11_beaterOf_15 lk_X11_28 lc_0 rfl ?_
    refine pr_getR dX11_beaterOf_18 lk_X11_116 lc_15 rfl ?_
    refine pr_astore_n dX11_beaterOf_21 (by decide) rfl ?_
    refine pr_iload_n dX11_beaterOf_22 rfl ?_
    by_cases c_6_0 : (wr x2) = 0
    · have h := pm_pos c_6_0 h
      refine pr_tsIn (j := 0) (tgt := 52) dX11_beaterOf_23 rfl (c_6_0.trans (by decide)) (by decide) rfl (by decide) ?_
      refine pr_aload_n dX11_beaterOf_52 rfl ?_
      refine pr_getR dX11_beaterOf_53 lk_X11_315 lc_17 rfl ?_
      refine pr_iload_n dX11_beaterOf_56 rfl ?_
      obtain ⟨g_13, h⟩ := pm_gs h
      refine pr_iald dX11_beaterOf_57 lc_18 rfl g_13 ?_
      have h := Option.some.inj h
      subst h
      exact pr_iret dX11_beaterOf_58 rfl
    · have h := pm_ng c_6_0 h
      by_cases c_6_1 : (wr x2) = 1
      · have h := pm_pos c_6_1 h
        refine pr_tsIn (j := 1) (tgt := 59) dX11_beaterOf_23 rfl (c_6_1.trans (by decide)) (by decide) rfl (by decide) ?_
        refine pr_aload_n dX11_beaterOf_59 rfl ?_
        refine pr_iload_n dX11_beaterOf_60 rfl ?_
        obtain ⟨q9, e10, h⟩ := pm_bs h
        refine pr_callV (As := [pv_i x1]) (S := []) (t := 17) dX11_beaterOf_61 mk_X11_120 lc_17 (ci := 0) (q := (RX0, TX0, 4)) rfl rfl rfl rfl (Nat.le_of_ble_eq_true rfl) (by decide) (by decide) (Or.inl rfl) (tmX0_isEmpty (Or.inl rfl) e10) ?_
        refine pr_if_eq (tgt := 72) dX11_beaterOf_64 rfl (by decide) (fun c_11 => ?_) (fun c_11 => ?_)
        · have h := pm_pos c_11 h
          refine pr_aload_n dX11_beaterOf_72 rfl ?_
          refine pr_getR dX11_beaterOf_73 lk_X11_316 lc_17 rfl ?_
          refine pr_iload_n dX11_beaterOf_76 rfl ?_
          obtain ⟨g_12, h⟩ := pm_gs h
          refine pr_iald dX11_beaterOf_77 lc_19 rfl g_12 ?_
          have h := Option.some.inj h
          subst h
          exact pr_iret dX11_beaterOf_78 rfl
        · have h := pm_ng c_11 h
          refine pr_bipush dX11_beaterOf_67 (by decide) ?_
          refine pr_goto (tgt := 78) dX11_beaterOf_69 (by decide) ?_
          have h := Option.some.inj h
          subst h
          exact pr_iret dX11_beaterOf_78 rfl
      · have h := pm_ng c_6_1 h
        by_cases c_6_2 : (wr x2) = 2
        · have h := pm_pos c_6_2 h
          refine pr_tsIn (j := 2) (tgt := 79) dX11_beaterOf_23 rfl (c_6_2.trans (by decide)) (by decide) rfl (by decide) ?_
          refine pr_aload_n dX11_beaterOf_79 rfl ?_
          refine pr_getR dX11_beaterOf_80 lk_X11_317 lc_17 rfl ?_
          refine pr_iload_n dX11_beaterOf_83 rfl ?_
          obtain ⟨g_8, h⟩ := pm_gs h
          refine pr_iald dX11_beaterOf_84 lc_20 rfl g_8 ?_
          have h := Option.some.inj h
          subst h
          exact pr_iret dX11_beaterOf_85 rfl
        · have h := pm_ng c_6_2 h
          by_cases c_6_3 : (wr x2) = 3
          · have h := pm_pos c_6_3 h
            refine pr_tsIn (j := 3) (tgt := 86) dX11_beaterOf_23 rfl (c_6_3.trans (by decide)) (by decide) rfl (by decide) ?_
            refine pr_aload_n dX11_beaterOf_86 rfl ?_
            refine pr_getR dX11_beaterOf_87 lk_X11_320 lc_17 rfl ?_
            refine pr_iload_n dX11_beaterOf_90 rfl ?_
            obtain ⟨g_7, h⟩ := pm_gs h
            refine pr_iald dX11_beaterOf_91 lc_21 rfl g_7 ?_
            have h := Option.some.inj h
            subst h
            exact pr_iret dX11_beaterOf_92 rfl
          · have h := pm_ng c_6_3 h
            refine pr_tsOut (tgt := 93) dX11_beaterOf_23 rfl (by omega) (by decide) ?_
            refine pr_aload_n dX11_beaterOf_93 rfl ?_
            refine pr_bipush dX11_beaterOf_94 (by decide) ?_
            obtain ⟨q4, e5, h⟩ := pm_bs h
            refine pr_callV (As := [pv_i (-2)]) (S := []) (t := 0) dX11_beaterOf_96 mk_X11_69 lc_0 (ci := 11) (q := (RX11, TX11, 11)) rfl rfl rfl rfl (Nat.le_of_ble_eq_true rfl) (by decide) (by decide) (Or.inl rfl) (tmX11_refuse e5) ?_
            have h := Option.some.inj h
            subst h
            exact pr_iret dX11_beaterOf_99 rfl
  · have h := pm_pos c_3 h
    refine pr_aload_n dX11_beaterOf_8 rfl ?_
    refine pr_iconst dX11_beaterOf_9 ?_
    obtain ⟨q14, e15, h⟩ := pm_bs h
    refine pr_callV (As := [pv_i (-1)]) (S := []) (t := 0) dX11_beaterOf_10 mk_X11_69 lc_0 (ci := 11) (q := (RX11, TX11, 11)) rfl rfl rfl rfl (Nat.le_of_ble_eq_true rfl) (by decide) (by decide) (Or.inl rfl) (tmX11_refuse e15) ?_
    have h := Option.some.inj h
    subst h
    exact pr_iret dX11_beaterOf_13 rfl
def fX11_vatOf (x1 : Int) (x2 : Int) (σ : pm_M) : Option (Int × pm_M) :=
  (fX11_isNumber x1 3).bind fun q1 => if (wr q1) = 0 then ((fX11_refuse (-1) σ).bind fun q11 => some (q11.1, q11.2)) else (if (wr x2) = 0 then (pm_g (0 ≤ (wr x1) ∧ (wr x1) < 3) (some ((σ 38 (Int.toNat (wr x1))), σ))) else (if (wr x2) = 1 then (pm_g (0 ≤ (wr x1) ∧ (wr x1) < 3) (some ((σ 39 (Int.toNat (wr x1))), σ))) else (if (wr x2) = 2 then (pm_g (0 ≤ (wr x1) ∧ (wr x1) < 3) (some ((σ 40 (Int.toNat (wr x1))), σ))) else (if (wr x2) = 3 then (pm_g (0 ≤ (wr x1) ∧ (wr x1) < 3) (some ((σ 41 (Int.toNat (wr x1))), σ))) else ((fX11_refuse (-2) σ).bind fun q4 => some (q4.1, q4.2))))))
set_option maxHeartbeats 4000000 in
set_option maxRecDepth 100000 in
theorem tmX11_vatOf {x1 : Int} {x2 : Int} {σ : pm_M} {ρ : Int × pm_M} (h : fX11_vatOf x1 x2 σ = some ρ) : pm_C mX11_vatOf 1 21 [pv_r 0, pv_i x1, pv_i x2] LAYC σ (some (pv_i ρ.1)) LAYC ρ.2 := by
  refine pm_C.of (by decide) rfl (Nat.le_of_ble_eq_true rfl) ?_
  show pm_J mX11_vatOf 1 21 LAYC (some (pv_i ρ.1)) LAYC ρ.2 0 [some (pv_r 0), some (pv_i x1), some (pv_i x2), none] [] LAYC σ
  unfold fX11_vatOf at h
  refine pr_iload_n dX11_vatOf_0 rfl ?_
  refine pr_iconst dX11_vatOf_1 ?_
  obtain ⟨q1, e2, h⟩ := pm_bs h
  refine pr_callS (av := [pv_i x1, pv_i 3]) (S := []) dX11_vatOf_2 mk_X11_65 rfl rfl (Nat.le_of_ble_eq_true rfl) (by decide) (by decide) (Or.inl rfl) (tmX11_isNumber e2) ?_
  refine pr_if_ne (tgt := 14) dX11_vatOf_5 rfl (by decide) (fun c_3 => ?_) (fun c_3 => ?_)
  · have h := pm_ng c_3 h
    refine pr_aload_n dX11_vatOf_14 rfl ?_
    refine pr_getR dX11_vatOf_15 lk_X11_28 lc_0 rfl ?_
    refine pr_getR dX11_vatOf_18 lk_X11_157 lc_15 rfl ?_
    refine pr_astore_n dX11_vatOf_21 (by decide) rfl ?_
    refine pr_iload_n dX11_vatOf_22 rfl ?_
    by_cases c_6_0 : (wr x2) = 0
    · have h := pm_pos c_6_0 h
      refine pr_tsIn (j := 0) (tgt := 52) dX11_vatOf_23 rfl (c_6_0.trans (by decide)) (by decide) rfl (by decide) ?_
      refine pr_aload_n dX11_vatOf_52 rfl ?_
      refine pr_getR dX11_vatOf_53 lk_X11_181 lc_37 rfl ?_
      refine pr_iload_n dX11_vatOf_56 rfl ?_
      obtain ⟨g_10, h⟩ := pm_gs h
      refine pr_iald dX11_vatOf_57 lc_38 rfl g_10 ?_
      have h := Option.some.inj h
      subst h
      exact pr_iret dX11_vatOf_58 rfl
    · have h := pm_ng c_6_0 h
      by_cases c_6_1 : (wr x2) = 1
      · have h := pm_pos c_6_1 h
        refine pr_tsIn (j := 1) (tgt := 59) dX11_vatOf_23 rfl (c_6_1.trans (by decide)) (by decide) rfl (by decide) ?_
        refine pr_aload_n dX11_vatOf_59 rfl ?_
        refine pr_getR dX11_vatOf_60 lk_X11_184 lc_37 rfl ?_
        refine pr_iload_n dX11_vatOf_63 rfl ?_
        obtain ⟨g_9, h⟩ := pm_gs h
        refine pr_iald dX11_vatOf_64 lc_39 rfl g_9 ?_
        have h := Option.some.inj h
        subst h
        exact pr_iret dX11_vatOf_65 rfl
      · have h := pm_ng c_6_1 h
        by_cases c_6_2 : (wr x2) = 2
        · have h := pm_pos c_6_2 h
          refine pr_tsIn (j := 2) (tgt := 66) dX11_vatOf_23 rfl (c_6_2.trans (by decide)) (by decide) rfl (by decide) ?_
          refine pr_aload_n dX11_vatOf_66 rfl ?_
          refine pr_getR dX11_vatOf_67 lk_X11_175 lc_37 rfl ?_
          refine pr_iload_n dX11_vatOf_70 rfl ?_
          obtain ⟨g_8, h⟩ := pm_gs h
          refine pr_iald dX11_vatOf_71 lc_40 rfl g_8 ?_
          have h := Option.some.inj h
          subst h
          exact pr_iret dX11_vatOf_72 rfl
        · have h := pm_ng c_6_2 h
          by_cases c_6_3 : (wr x2) = 3
          · have h := pm_pos c_6_3 h
            refine pr_tsIn (j := 3) (tgt := 73) dX11_vatOf_23 rfl (c_6_3.trans (by decide)) (by decide) rfl (by decide) ?_
            refine pr_aload_n dX11_vatOf_73 rfl ?_
            refine pr_getR dX11_vatOf_74 lk_X11_323 lc_37 rfl ?_
            refine pr_iload_n dX11_vatOf_77 rfl ?_
            obtain ⟨g_7, h⟩ := pm_gs h
            refine pr_iald dX11_vatOf_78 lc_41 rfl g_7 ?_
            have h := Option.some.inj h
            subst h
            exact pr_iret dX11_vatOf_79 rfl
          · have h := pm_ng c_6_3 h
            refine pr_tsOut (tgt := 80) dX11_vatOf_23 rfl (by omega) (by decide) ?_
            refine pr_aload_n dX11_vatOf_80 rfl ?_
            refine pr_bipush dX11_vatOf_81 (by decide) ?_
            obtain ⟨q4, e5, h⟩ := pm_bs h
            refine pr_callV (As := [pv_i (-2)]) (S := []) (t := 0) dX11_vatOf_83 mk_X11_69 lc_0 (ci := 11) (q := (RX11, TX11, 11)) rfl rfl rfl rfl (Nat.le_of_ble_eq_true rfl) (by decide) (by decide) (Or.inl rfl) (tmX11_refuse e5) ?_
            have h := Option.some.inj h
            subst h
            exact pr_iret dX11_vatOf_86 rfl
  · have h := pm_pos c_3 h
    refine pr_aload_n dX11_vatOf_8 rfl ?_
    refine pr_iconst dX11_vatOf_9 ?_
    obtain ⟨q11, e12, h⟩ := pm_bs h
    refine pr_callV (As := [pv_i (-1)]) (S := []) (t := 0) dX11_vatOf_10 mk_X11_69 lc_0 (ci := 11) (q := (RX11, TX11, 11)) rfl rfl rfl rfl (Nat.le_of_ble_eq_true rfl) (by decide) (by decide) (Or.inl rfl) (tmX11_refuse e12) ?_
    have h := Option.some.inj h
    subst h
    exact pr_iret dX11_vatOf_13 rfl
