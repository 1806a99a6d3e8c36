def fX11_heap (x1 : Int) (x2 : Int) (σ : pm_M) : Option (Int × pm_M) :=
  (fX11_isNumber x1 9).bind fun q1 => if (wr q1) = 0 then ((fX11_refuse (-1) σ).bind fun q21 => some (q21.1, q21.2)) else (if 1 ≤ (wr x2) then (if 400 < (wr x2) then ((fX11_refuse (-6) σ).bind fun q6 => some (q6.1, q6.2)) else (pm_g (0 ≤ (wr x1) ∧ (wr x1) < 9) (if (wr (σ 14 (Int.toNat (wr x1)))) < (wr x2) then ((fX11_refuse (-6) σ).bind fun q10 => some (q10.1, q10.2)) else (if (wr (σ 43 5)) = 40 then ((fX11_refuse (-6) σ).bind fun q17 => some (q17.1, q17.2)) else (pm_g (0 ≤ (wr x1) ∧ (wr x1) < 9) (pm_g (0 ≤ (wr x1) ∧ (wr x1) < 9) ((fX1_lay 15 x1 x2 ((pm_up σ 14 (Int.toNat (wr x1)) ((σ 14 (Int.toNat (wr x1))) - x2)) 15 7) (pm_up σ 14 (Int.toNat (wr x1)) ((σ 14 (Int.toNat (wr x1))) - x2))).bind fun q15 => some (q15.1, q15.2)))))))) else ((fX11_refuse (-4) σ).bind fun q19 => some (q19.1, q19.2)))
set_option maxHeartbeats 4000000 in
set_option maxRecDepth 100000 in
theorem tmX11_heap {x1 : Int} {x2 : Int} {σ : pm_M} {ρ : Int × pm_M} (h : fX11_heap x1 x2 σ = some ρ) : pm_C mX11_heap 1 23 [pv_r 0, pv_i x1, pv_i x2] LAYC σ (some (pv_i ρ.1)) LAYC ρ.2 := by
  refine pm_C.of (by decide) rfl (Nat.le_of_ble_eq_true rfl) ?_
  show pm_J mX11_heap 1 23 LAYC (some (pv_i ρ.1)) LAYC ρ.2 0 [some (pv_r 0), some (pv_i x1), some (pv_i x2)] [] LAYC σ
  unfold fX11_heap at h
  refine pr_iload_n dX11_heap_0 rfl ?_
  refine pr_bipush dX11_heap_1 (by decide) ?_
  obtain ⟨q1, e2, h⟩ := pm_bs h
  refine pr_callS (av := [pv_i x1, pv_i 9]) (S := []) dX11_heap_3 mk_X11_65 rfl rfl (Nat.le_of_ble_eq_true rfl) (by decide) (by decide) (Or.inl rfl) (tmX11_isNumber e2) ?_
  refine pr_if_ne (tgt := 15) dX11_heap_6 rfl (by decide) (fun c_3 => ?_) (fun c_3 => ?_)
  · have h := pm_ng c_3 h
    refine pr_iload_n dX11_heap_15 rfl ?_
    refine pr_iconst dX11_heap_16 ?_
    refine pr_icmp_ge (tgt := 27) dX11_heap_17 rfl (wr_eq (by decide) (by decide)) (by decide) (fun c_4 => ?_) (fun c_4 => ?_)
    · have h := pm_pos c_4 h
      refine pr_iload_n dX11_heap_27 rfl ?_
      refine pr_sipush dX11_heap_28 (by decide) ?_
      refine pr_icmp_gt (tgt := 62) dX11_heap_31 rfl (wr_eq (by decide) (by decide)) (by decide) (fun c_5 => ?_) (fun c_5 => ?_)
      · have h := pm_pos c_5 h
        refine pr_aload_n dX11_heap_62 rfl ?_
        refine pr_bipush dX11_heap_63 (by decide) ?_
        obtain ⟨q6, e7, h⟩ := pm_bs h
        refine pr_callV (As := [pv_i (-6)]) (S := []) (t := 0) dX11_heap_65 mk_X11_69 lc_0 (ci := 11) (q := (RX11, TX11, 11)) rfl rfl rfl rfl (Nat.le_of_ble_eq_true rfl) (by decide) (by decide) (Or.inl rfl) (tmX11_refuse e7) ?_
        have h := Option.some.inj h
        subst h
        exact pr_iret dX11_heap_68 rfl
      · have h := pm_ng c_5 h
        refine pr_iload_n dX11_heap_34 rfl ?_
        refine pr_aload_n dX11_heap_35 rfl ?_
        refine pr_getR dX11_heap_36 lk_X11_19 lc_0 rfl ?_
        refine pr_getR dX11_heap_39 lk_X11_96 lc_10 rfl ?_
        refine pr_iload_n dX11_heap_42 rfl ?_
        obtain ⟨g_8, h⟩ := pm_gs h
        refine pr_iald dX11_heap_43 lc_14 rfl g_8 ?_
        refine pr_icmp_gt (tgt := 62) dX11_heap_44 rfl rfl (by decide) (fun c_9 => ?_) (fun c_9 => ?_)
        · have h := pm_pos c_9 h
          refine pr_aload_n dX11_heap_62 rfl ?_
          refine pr_bipush dX11_heap_63 (by decide) ?_
          obtain ⟨q10, e11, h⟩ := pm_bs h
          refine pr_callV (As := [pv_i (-6)]) (S := []) (t := 0) dX11_heap_65 mk_X11_69 lc_0 (ci := 11) (q := (RX11, TX11, 11)) rfl rfl rfl rfl (Nat.le_of_ble_eq_true rfl) (by decide) (by decide) (Or.inl rfl) (tmX11_refuse e11) ?_
          have h := Option.some.inj h
          subst h
          exact pr_iret dX11_heap_68 rfl
        · have h := pm_ng c_9 h
          refine pr_aload_n dX11_heap_47 rfl ?_
          refine pr_getR dX11_heap_48 lk_X11_28 lc_0 rfl ?_
          refine pr_getR dX11_heap_51 lk_X11_99 lc_15 rfl ?_
          refine pr_getI dX11_heap_54 lk_X11_103 lc_43 rfl ?_
          refine pr_bipush dX11_heap_57 (by decide) ?_
          refine pr_icmp_ne (tgt := 69) dX11_heap_59 rfl (wr_eq (by decide) (by decide)) (by decide) (fun c_12 => ?_) (fun c_12 => ?_)
          · have h := pm_ng c_12 h
            refine pr_aload_n dX11_heap_69 rfl ?_
            refine pr_getR dX11_heap_70 lk_X11_19 lc_0 rfl ?_
            refine pr_getR dX11_heap_73 lk_X11_96 lc_10 rfl ?_
            refine pr_iload_n dX11_heap_76 rfl ?_
            refine pr_dup2 dX11_heap_77 rfl rfl ?_
            obtain ⟨g_13, h⟩ := pm_gs h
            refine pr_iald dX11_heap_78 lc_14 rfl g_13 ?_
            refine pr_iload_n dX11_heap_79 rfl ?_
            refine pr_isub dX11_heap_80 ?_
            obtain ⟨g_14, h⟩ := pm_gs h
            refine pr_iast dX11_heap_81 lc_14 rfl g_14 ?_
            refine pr_aload_n dX11_heap_82 rfl ?_
            refine pr_getR dX11_heap_83 lk_X11_28 lc_0 rfl ?_
            refine pr_getR dX11_heap_86 lk_X11_99 lc_15 rfl ?_
            refine pr_iload_n dX11_heap_89 rfl ?_
            refine pr_iload_n dX11_heap_90 rfl ?_
            refine pr_aload_n dX11_heap_91 rfl ?_
            refine pr_getR dX11_heap_92 lk_X11_28 lc_0 rfl ?_
            refine pr_getI dX11_heap_95 lk_X11_109 lc_15 rfl ?_
            obtain ⟨q15, e16, h⟩ := pm_bs h
            refine pr_callV (As := [pv_i x1, pv_i x2, pv_i ((pm_up σ 14 (Int.toNat (wr x1)) ((σ 14 (Int.toNat (wr x1))) - x2)) 15 7)]) (S := []) (t := 43) dX11_heap_98 mk_X11_112 lc_43 (ci := 1) (q := (RX1, TX1, 7)) rfl rfl rfl rfl (Nat.le_of_ble_eq_true rfl) (by decide) (by decide) (Or.inl rfl) (tmX1_lay (Or.inl rfl) e16) ?_
            have h := Option.some.inj h
            subst h
            exact pr_iret dX11_heap_101 rfl
          · have h := pm_pos c_12 h
            refine pr_aload_n dX11_heap_62 rfl ?_
            refine pr_bipush dX11_heap_63 (by decide) ?_
            obtain ⟨q17, e18, h⟩ := pm_bs h
            refine pr_callV (As := [pv_i (-6)]) (S := []) (t := 0) dX11_heap_65 mk_X11_69 lc_0 (ci := 11) (q := (RX11, TX11, 11)) rfl rfl rfl rfl (Nat.le_of_ble_eq_true rfl) (by decide) (by decide) (Or.inl rfl) (tmX11_refuse e18) ?_
            have h := Option.some.inj h
            subst h
            exact pr_iret dX11_heap_68 rfl
    · have h := pm_ng c_4 h
      refine pr_aload_n dX11_heap_20 rfl ?_
      refine pr_bipush dX11_heap_21 (by decide) ?_
      obtain ⟨q19, e20, h⟩ := pm_bs h
      refine pr_callV (As := [pv_i (-4)]) (S := []) (t := 0) dX11_heap_23 mk_X11_69 lc_0 (ci := 11) (q := (RX11, TX11, 11)) rfl rfl rfl rfl (Nat.le_of_ble_eq_true rfl) (by decide) (by decide) (Or.inl rfl) (tmX11_refuse e20) ?_
      have h := Option.some.inj h
      subst h
      exact pr_iret dX11_heap_26 rfl
  · have h := pm_pos c_3 h
    refine pr_aload_n dX11_heap_9 rfl ?_
    refine pr_iconst dX11_heap_10 ?_
    obtain ⟨q21, e22, h⟩ := pm_bs h
    refine pr_callV (As := [pv_i (-1)]) (S := []) (t := 0) dX11_heap_11 mk_X11_69 lc_0 (ci := 11) (q := (RX11, TX11, 11)) rfl rfl rfl rfl (Nat.le_of_ble_eq_true rfl) (by decide) (by decide) (Or.inl rfl) (tmX11_refuse e22) ?_
    have h := Option.some.inj h
    subst h
    exact pr_iret dX11_heap_14 rfl
def fX11_load (x1 : Int) (x2 : Int) (x3 : Int) (σ : pm_M) : Option (Int × pm_M) :=
  (fX11_isNumber x1 4).bind fun q1 => if (wr q1) = 0 then ((fX11_refuse (-1) σ).bind fun q4 => some (q4.1, q4.2)) else ((fX11_isNumber x2 (σ 43 5)).bind fun q6 => if (wr q6) = 0 then ((fX11_refuse (-1) σ).bind fun q36 => some (q36.1, q36.2)) else ((fX0_isEmpty 15 x1 σ).bind fun q9 => if (wr q9) = 0 then ((fX11_refuse (-3) σ).bind fun q12 => some (q12.1, q12.2)) else ((fX1_isRipe 15 x2 (σ 15 7) σ).bind fun q14 => if (wr q14) = 0 then ((fX11_refuse (-3) σ).bind fun q34 => some (q34.1, q34.2)) else (if 1 ≤ (wr x3) then (if 100 < (wr x3) then ((fX11_refuse (-6) σ).bind fun q19 => some (q19.1, q19.2)) else (pm_g (0 ≤ (wr x2) ∧ (wr x2) < 40) (if (wr x3) ≤ (wr (σ 45 (Int.toNat (wr x2)))) then (pm_g (0 ≤ (wr x2) ∧ (wr x2) < 40) (pm_g (0 ≤ (wr x2) ∧ (wr x2) < 40) (pm_g (0 ≤ (wr x2) ∧ (wr x2) < 40) (pm_g (0 ≤ (wr (σ 44 (Int.toNat (wr x2)))) ∧ (wr (σ 44 (Int.toNat (wr x2)))) < 9) ((fX0_take 15 x1 (σ 44 (Int.toNat (wr x2))) x3 ((pm_up σ 45 (Int.toNat (wr x2)) ((σ 45 (Int.toNat (wr x2))) - x3)) 13 (Int.toNat (wr (σ 44 (Int.toNat (wr x2)))))) (pm_up σ 45 (Int.toNat (wr x2)) ((σ 45 (Int.toNat (wr x2))) - x3))).bind fun q27 => pm_g (0 ≤ (wr (σ 44 (Int.toNat (wr x2)))) ∧ (wr (σ 44 (Int.toNat (wr x2)))) < 9) (some ((q27 13 (Int.toNat (wr (σ 44 (Int.toNat (wr x2)))))), q27))))))) else ((fX11_refuse (-6) σ).bind fun q30 => some (q30.1, q30.2))))) else ((fX11_refuse (-4) σ).bind fun q32 => some (q32.1, q32.2))))))
set_option maxHeartbeats 4000000 in
set_option maxRecDepth 100000 in
theorem tmX11_load {x1 : Int} {x2 : Int} {x3 : Int} {σ : pm_M} {ρ : Int × pm_M} (h : fX11_load x1 x2 x3 σ = some ρ) : pm_C mX11_load 2 44 [pv_r 0, pv_i x1, pv_i x2, pv_i x3] LAYC σ (some (pv_i ρ.1)) LAYC ρ.2 := by
  refine pm_C.of (by decide) rfl (Nat.le_of_ble_eq_true rfl) ?_
  show pm_J mX11_load 2 44 LAYC (some (pv_i ρ.1)) LAYC ρ.2 0 [some (pv_r 0), some (pv_i x1), some (pv_i x2), some (pv_i x3), none] [] LAYC σ
  unfold fX11_load at h
  refine pr_iload_n dX11_load_0 rfl ?_
  refine pr_iconst dX11_load_1 ?_
  obtain ⟨q1, e2, h⟩ := pm_bs h
  refine pr_callS (av := [pv_i x1, pv_i 4]) (S := []) dX11_load_2 mk_X11_65 rfl rfl (Nat.le_of_ble_eq_true rfl) (by decide) (by decide) (Or.inl rfl) (tmX11_isNumber e2) ?_
  refine pr_if_eq (tgt := 25) dX11_load_5 rfl (by decide) (fun c_3 => ?_) (fun c_3 => ?_)
  · have h := pm_pos c_3 h
    refine pr_aload_n dX11_load_25 rfl ?_
    refine pr_iconst dX11_load_26 ?_
    obtain ⟨q4, e5, h⟩ := pm_bs h
    refine pr_callV (As := [pv_i (-1)]) (S := []) (t := 0) dX11_load_27 mk_X11_69 lc_0 (ci := 11) (q := (RX11, TX11, 11)) rfl rfl rfl rfl (Nat.le_of_ble_eq_true rfl) (by decide) (by decide) (Or.inl rfl) (tmX11_refuse e5) ?_
    have h := Option.some.inj h
    subst h
    exact pr_iret dX11_load_30 rfl
  · have h := pm_ng c_3 h
    refine pr_iload_n dX11_load_8 rfl ?_
    refine pr_aload_n dX11_load_9 rfl ?_
    refine pr_getR dX11_load_10 lk_X11_28 lc_0 rfl ?_
    refine pr_getR dX11_load_13 lk_X11_99 lc_15 rfl ?_
    refine pr_getI dX11_load_16 lk_X11_103 lc_43 rfl ?_
    obtain ⟨q6, e7, h⟩ := pm_bs h
    refine pr_callS (av := [pv_i x2, pv_i (σ 43 5)]) (S := []) dX11_load_19 mk_X11_65 rfl rfl (Nat.le_of_ble_eq_true rfl) (by decide) (by decide) (Or.inl rfl) (tmX11_isNumber e7) ?_
    refine pr_if_ne (tgt := 31) dX11_load_22 rfl (by decide) (fun c_8 => ?_) (fun c_8 => ?_)
    · have h := pm_ng c_8 h
      refine pr_aload_n dX11_load_31 rfl ?_
      refine pr_getR dX11_load_32 lk_X11_28 lc_0 rfl ?_
      refine pr_getR dX11_load_35 lk_X11_116 lc_15 rfl ?_
      refine pr_iload_n dX11_load_38 rfl ?_
      obtain ⟨q9, e10, h⟩ := pm_bs h
      refine pr_callV (As := [pv_i x1]) (S := []) (t := 17) dX11_load_39 mk_X11_120 lc_17 (ci := 0) (q := (RX0, TX0, 4)) rfl rfl rfl rfl (Nat.le_of_ble_eq_true rfl) (by decide) (by decide) (Or.inl rfl) (tmX0_isEmpty (Or.inl rfl) e10) ?_
      refine pr_if_eq (tgt := 66) dX11_load_42 rfl (by decide) (fun c_11 => ?_) (fun c_11 => ?_)
      · have h := pm_pos c_11 h
        refine pr_aload_n dX11_load_66 rfl ?_
        refine pr_bipush dX11_load_67 (by decide) ?_
        obtain ⟨q12, e13, h⟩ := pm_bs h
        refine pr_callV (As := [pv_i (-3)]) (S := []) (t := 0) dX11_load_69 mk_X11_69 lc_0 (ci := 11) (q := (RX11, TX11, 11)) rfl rfl rfl rfl (Nat.le_of_ble_eq_true rfl) (by decide) (by decide) (Or.inl rfl) (tmX11_refuse e13) ?_
        have h := Option.some.inj h
        subst h
        exact pr_iret dX11_load_72 rfl
      · have h := pm_ng c_11 h
        refine pr_aload_n dX11_load_45 rfl ?_
        refine pr_getR dX11_load_46 lk_X11_28 lc_0 rfl ?_
        refine pr_getR dX11_load_49 lk_X11_99 lc_15 rfl ?_
        refine pr_iload_n dX11_load_52 rfl ?_
        refine pr_aload_n dX11_load_53 rfl ?_
        refine pr_getR dX11_load_54 lk_X11_28 lc_0 rfl ?_
        refine pr_getI dX11_load_57 lk_X11_109 lc_15 rfl ?_
        obtain ⟨q14, e15, h⟩ := pm_bs h
        refine pr_callV (As := [pv_i x2, pv_i (σ 15 7)]) (S := []) (t := 43) dX11_load_60 mk_X11_126 lc_43 (ci := 1) (q := (RX1, TX1, 7)) rfl rfl rfl rfl (Nat.le_of_ble_eq_true rfl) (by decide) (by decide) (Or.inl rfl) (tmX1_isRipe (Or.inl rfl) e15) ?_
        refine pr_if_ne (tgt := 73) dX11_load_63 rfl (by decide) (fun c_16 => ?_) (fun c_16 => ?_)
        · have h := pm_ng c_16 h
          refine pr_iload_n dX11_load_73 rfl ?_
          refine pr_iconst dX11_load_74 ?_
          refine pr_icmp_ge (tgt := 85) dX11_load_75 rfl (wr_eq (by decide) (by decide)) (by decide) (fun c_17 => ?_) (fun c_17 => ?_)
          · have h := pm_pos c_17 h
            refine pr_iload_n dX11_load_85 rfl ?_
            refine pr_bipush dX11_load_86 (by decide) ?_
            refine pr_icmp_gt (tgt := 107) dX11_load_88 rfl (wr_eq (by decide) (by decide)) (by decide) (fun c_18 => ?_) (fun c_18 => ?_)
            · have h := pm_pos c_18 h
              refine pr_aload_n dX11_load_107 rfl ?_
              refine pr_bipush dX11_load_108 (by decide) ?_
              obtain ⟨q19, e20, h⟩ := pm_bs h
              refine pr_callV (As := [pv_i (-6)]) (S := []) (t := 0) dX11_load_110 mk_X11_69 lc_0 (ci := 11) (q := (RX11, TX11, 11)) rfl rfl rfl rfl (Nat.le_of_ble_eq_true rfl) (by decide) (by decide) (Or.inl rfl) (tmX11_refuse e20) ?_
              have h := Option.some.inj h
              subst h
              exact pr_iret dX11_load_113 rfl
            · have h := pm_ng c_18 h
              refine pr_iload_n dX11_load_91 rfl ?_
              refine pr_aload_n dX11_load_92 rfl ?_
              refine pr_getR dX11_load_93 lk_X11_28 lc_0 rfl ?_
              refine pr_getR dX11_load_96 lk_X11_99 lc_15 rfl ?_
              refine pr_getR dX11_load_99 lk_X11_129 lc_43 rfl ?_
              refine pr_iload_n dX11_load_102 rfl ?_
              obtain ⟨g_21, h⟩ := pm_gs h
              refine pr_iald dX11_load_103 lc_45 rfl g_21 ?_
              refine pr_icmp_le (tgt := 114) dX11_load_104 rfl rfl (by decide) (fun c_22 => ?_) (fun c_22 => ?_)
              · have h := pm_pos c_22 h
                refine pr_aload_n dX11_load_114 rfl ?_
                refine pr_getR dX11_load_115 lk_X11_28 lc_0 rfl ?_
                refine pr_getR dX11_load_118 lk_X11_99 lc_15 rfl ?_
                refine pr_getR dX11_load_121 lk_X11_132 lc_43 rfl ?_
                refine pr_iload_n dX11_load_124 rfl ?_
                obtain ⟨g_23, h⟩ := pm_gs h
                refine pr_iald dX11_load_125 lc_44 rfl g_23 ?_
                refine pr_istore dX11_load_126 (by decide) rfl ?_
                refine pr_aload_n dX11_load_128 rfl ?_
                refine pr_getR dX11_load_129 lk_X11_28 lc_0 rfl ?_
                refine pr_getR dX11_load_132 lk_X11_99 lc_15 rfl ?_
                refine pr_getR dX11_load_135 lk_X11_129 lc_43 rfl ?_
                refine pr_iload_n dX11_load_138 rfl ?_
                refine pr_dup2 dX11_load_139 rfl rfl ?_
                obtain ⟨g_24, h⟩ := pm_gs h
                refine pr_iald dX11_load_140 lc_45 rfl g_24 ?_
                refine pr_iload_n dX11_load_141 rfl ?_
                refine pr_isub dX11_load_142 ?_
                obtain ⟨g_25, h⟩ := pm_gs h
                refine pr_iast dX11_load_143 lc_45 rfl g_25 ?_
                refine pr_aload_n dX11_load_144 rfl ?_
                refine pr_getR dX11_load_145 lk_X11_28 lc_0 rfl ?_
                refine pr_getR dX11_load_148 lk_X11_116 lc_15 rfl ?_
                refine pr_iload_n dX11_load_151 rfl ?_
                refine pr_iload dX11_load_152 rfl ?_
                refine pr_iload_n dX11_load_154 rfl ?_
                refine pr_aload_n dX11_load_155 rfl ?_
                refine pr_getR dX11_load_156 lk_X11_19 lc_0 rfl ?_
                refine pr_getR dX11_load_159 lk_X11_93 lc_10 rfl ?_
                refine pr_iload dX11_load_162 rfl ?_
                obtain ⟨g_26, h⟩ := pm_gs h
                refine pr_iald dX11_load_164 lc_13 rfl g_26 ?_
                obtain ⟨q27, e28, h⟩ := pm_bs h
                refine pr_callV (As := [pv_i x1, pv_i (σ 44 (Int.toNat (wr x2))), pv_i x3, pv_i ((pm_up σ 45 (Int.toNat (wr x2)) ((σ 45 (Int.toNat (wr x2))) - x3)) 13 (Int.toNat (wr (σ 44 (Int.toNat (wr x2))))))]) (S := []) (t := 17) dX11_load_165 mk_X11_135 lc_17 (ci := 0) (q := (RX0, TX0, 4)) rfl rfl rfl rfl (Nat.le_of_ble_eq_true rfl) (by decide) (by decide) (Or.inl rfl) (tmX0_take (Or.inl rfl) e28) ?_
                refine pr_aload_n dX11_load_168 rfl ?_
                refine pr_getR dX11_load_169 lk_X11_19 lc_0 rfl ?_
                refine pr_getR dX11_load_172 lk_X11_93 lc_10 rfl ?_
                refine pr_iload dX11_load_175 rfl ?_
                obtain ⟨g_29, h⟩ := pm_gs h
                refine pr_iald dX11_load_177 lc_13 rfl g_29 ?_
                have h := Option.some.inj h
                subst h
                exact pr_iret dX11_load_178 rfl
              · have h := pm_ng c_22 h
                refine pr_aload_n dX11_load_107 rfl ?_
                refine pr_bipush dX11_load_108 (by decide) ?_
                obtain ⟨q30, e31, h⟩ := pm_bs h
                refine pr_callV (As := [pv_i (-6)]) (S := []) (t := 0) dX11_load_110 mk_X11_69 lc_0 (ci := 11) (q := (RX11, TX11, 11)) rfl rfl rfl rfl (Nat.le_of_ble_eq_true rfl) (by decide) (by decide) (Or.inl rfl) (tmX11_refuse e31) ?_
                have h := Option.some.inj h
                subst h
                exact pr_iret dX11_load_113 rfl
          · have h := pm_ng c_17 h
            refine pr_aload_n dX11_load_78 rfl ?_
            refine pr_bipush dX11_load_79 (by decide) ?_
            obtain ⟨q32, e33, h⟩ := pm_bs h
            refine pr_callV (As := [pv_i (-4)]) (S := []) (t := 0) dX11_load_81 mk_X11_69 lc_0 (ci := 11) (q := (RX11, TX11, 11)) rfl rfl rfl rfl (Nat.le_of_ble_eq_true rfl) (by decide) (by decide) (Or.inl rfl) (tmX11_refuse e33) ?_
            have h := Option.some.inj h
            subst h
            exact pr_iret dX11_load_84 rfl
        · have h := pm_pos c_16 h
          refine pr_aload_n dX11_load_66 rfl ?_
          refine pr_bipush dX11_load_67 (by decide) ?_
          obtain ⟨q34, e35, h⟩ := pm_bs h
          refine pr_callV (As := [pv_i (-3)]) (S := []) (t := 0) dX11_load_69 mk_X11_69 lc_0 (ci := 11) (q := (RX11, TX11, 11)) rfl rfl rfl rfl (Nat.le_of_ble_eq_true rfl) (by decide) (by decide) (Or.inl rfl) (tmX11_refuse e35) ?_
          have h := Option.some.inj h
          subst h
          exact pr_iret dX11_load_72 rfl
    · have h := pm_pos c_8 h
      refine pr_aload_n dX11_load_25 rfl ?_
      refine pr_iconst dX11_load_26 ?_
      obtain ⟨q36, e37, h⟩ := pm_bs h
      refine pr_callV (As := [pv_i (-1)]) (S := []) (t := 0) dX11_load_27 mk_X11_69 lc_0 (ci := 11) (q := (RX11, TX11, 11)) rfl rfl rfl rfl (Nat.le_of_ble_eq_true rfl) (by decide) (by decide) (Or.inl rfl) (tmX11_refuse e37) ?_
      have h := Option.some.inj h
      subst h
      exact pr_iret dX11_load_30 rfl
def fX11_pair (x1 : Int) (σ : pm_M) : Option (Int × pm_M) :=
  (fX11_isWeight x1).bind fun q1 => if (wr q1) = 0 then ((fX11_refuse (-1) σ).bind fun q9 => some (q9.1, q9.2)) else (if (wr (σ 22 3)) = 4 then ((fX11_refuse (-6) σ).bind fun q7 => some (q7.1, q7.2)) else ((fX3_addPair 15 x1 σ).bind fun q5 => some (q5.1, q5.2)))
set_option maxHeartbeats 4000000 in
set_option maxRecDepth 100000 in
theorem tmX11_pair {x1 : Int} {σ : pm_M} {ρ : Int × pm_M} (h : fX11_pair x1 σ = some ρ) : pm_C mX11_pair 1 22 [pv_r 0, pv_i x1] LAYC σ (some (pv_i ρ.1)) LAYC ρ.2 := by
  refine pm_C.of (by decide) rfl (Nat.le_of_ble_eq_true rfl) ?_
  show pm_J mX11_pair 1 22 LAYC (some (pv_i ρ.1)) LAYC ρ.2 0 [some (pv_r 0), some (pv_i x1)] [] LAYC σ
  unfold fX11_pair at h
  refine pr_iload_n dX11_pair_0 rfl ?_
  obtain ⟨q1, e2, h⟩ := pm_bs h
  refine pr_callS (av := [pv_i x1]) (S := []) dX11_pair_1 mk_X11_139 rfl rfl (Nat.le_of_ble_eq_true rfl) (by decide) (by decide) (Or.inl rfl) (tmX11_isWeight e2) ?_
  refine pr_if_ne (tgt := 13) dX11_pair_4 rfl (by decide) (fun c_3 => ?_) (fun c_3 => ?_)
  · have h := pm_ng c_3 h
    refine pr_aload_n dX11_pair_13 rfl ?_
    refine pr_getR dX11_pair_14 lk_X11_28 lc_0 rfl ?_
    refine pr_getR dX11_pair_17 lk_X11_142 lc_15 rfl ?_
    refine pr_getI dX11_pair_20 lk_X11_146 lc_22 rfl ?_
    refine pr_iconst dX11_pair_23 ?_
    refine pr_icmp_ne (tgt := 34) dX11_pair_24 rfl (wr_eq (by decide) (by decide)) (by decide) (fun c_4 => ?_) (fun c_4 => ?_)
    · have h := pm_ng c_4 h
      refine pr_aload_n dX11_pair_34 rfl ?_
      refine pr_getR dX11_pair_35 lk_X11_28 lc_0 rfl ?_
      refine pr_getR dX11_pair_38 lk_X11_142 lc_15 rfl ?_
      refine pr_iload_n dX11_pair_41 rfl ?_
      obtain ⟨q5, e6, h⟩ := pm_bs h
      refine pr_callV (As := [pv_i x1]) (S := []) (t := 22) dX11_pair_42 mk_X11_151 lc_22 (ci := 3) (q := (RX3, TX3, 4)) rfl rfl rfl rfl (Nat.le_of_ble_eq_true rfl) (by decide) (by decide) (Or.inl rfl) (tmX3_addPair (Or.inl rfl) e6) ?_
      have h := Option.some.inj h
      subst h
      exact pr_iret dX11_pair_45 rfl
    · have h := pm_pos c_4 h
      refine pr_aload_n dX11_pair_27 rfl ?_
      refine pr_bipush dX11_pair_28 (by decide) ?_
      obtain ⟨q7, e8, h⟩ := pm_bs h
      refine pr_callV (As := [pv_i (-6)]) (S := []) (t := 0) dX11_pair_30 mk_X11_69 lc_0 (ci := 11) (q := (RX11, TX11, 11)) rfl rfl rfl rfl (Nat.le_of_ble_eq_true rfl) (by decide) (by decide) (Or.inl rfl) (tmX11_refuse e8) ?_
      have h := Option.some.inj h
      subst h
      exact pr_iret dX11_pair_33 rfl
  · have h := pm_pos c_3 h
    refine pr_aload_n dX11_pair_7 rfl ?_
    refine pr_iconst dX11_pair_8 ?_
    obtain ⟨q9, e10, h⟩ := pm_bs h
    refine pr_callV (As := [pv_i (-1)]) (S := []) (t := 0) dX11_pair_9 mk_X11_69 lc_0 (ci := 11) (q := (RX11, TX11, 11)) rfl rfl rfl rfl (Nat.le_of_ble_eq_true rfl) (by decide) (by decide) (Or.inl rfl) (tmX11_refuse e10) ?_
    have h := Option.some.inj h
    subst h
    exact pr_iret dX11_pair_12 rfl
