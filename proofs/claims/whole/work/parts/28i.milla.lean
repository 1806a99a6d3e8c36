def fX11_postOf (x1 : Int) (x2 : Int) (σ : pm_M) : Option (Int × pm_M) :=
  (fX11_isNumber x1 (σ 26 8)).bind fun q1 => if (wr q1) = 0 then ((fX11_refuse (-1) σ).bind fun q16 => some (q16.1, q16.2)) else (if (wr x2) = 0 then ((fX6_stateOf 15 x1 σ).bind fun q14 => some (q14, σ)) else (if (wr x2) = 1 then (pm_g (0 ≤ (wr x1) ∧ (wr x1) < 80) (some ((σ 30 (Int.toNat (wr x1))), σ))) else (if (wr x2) = 2 then (pm_g (0 ≤ (wr x1) ∧ (wr x1) < 80) (some ((σ 31 (Int.toNat (wr x1))), σ))) else (if (wr x2) = 3 then (pm_g (0 ≤ (wr x1) ∧ (wr x1) < 80) (some ((σ 32 (Int.toNat (wr x1))), σ))) else (if (wr x2) = 4 then (pm_g (0 ≤ (wr x1) ∧ (wr x1) < 80) (some ((σ 33 (Int.toNat (wr x1))), σ))) else (if (wr x2) = 5 then (pm_g (0 ≤ (wr x1) ∧ (wr x1) < 80) (some ((σ 34 (Int.toNat (wr x1))), σ))) else (if (wr x2) = 6 then (pm_g (0 ≤ (wr x1) ∧ (wr x1) < 80) (some ((σ 35 (Int.toNat (wr x1))), σ))) else (if (wr x2) = 7 then (pm_g (0 ≤ (wr x1) ∧ (wr x1) < 80) (some ((σ 36 (Int.toNat (wr x1))), σ))) else ((fX11_refuse (-2) σ).bind fun q4 => some (q4.1, q4.2))))))))))
set_option maxHeartbeats 4000000 in
set_option maxRecDepth 100000 in
theorem tmX11_postOf {x1 : Int} {x2 : Int} {σ : pm_M} {ρ : Int × pm_M} (h : fX11_postOf x1 x2 σ = some ρ) : pm_C mX11_postOf 1 21 [pv_r 0, pv_i x1, pv_i x2] LAYC σ (some (pv_i ρ.1)) LAYC ρ.2 := by
  refine pm_C.of (by decide) rfl (Nat.le_of_ble_eq_true rfl) ?_
  show pm_J mX11_postOf 1 21 LAYC (some (pv_i ρ.1)) LAYC ρ.2 0 [some (pv_r 0), some (pv_i x1), some (pv_i x2), none] [] LAYC σ
  unfold fX11_postOf at h
  refine pr_aload_n dX11_postOf_0 rfl ?_
  refine pr_getR dX11_postOf_1 lk_X11_28 lc_0 rfl ?_
  refine pr_getR dX11_postOf_4 lk_X11_44 lc_15 rfl ?_
  refine pr_astore_n dX11_postOf_7 (by decide) rfl ?_
  refine pr_iload_n dX11_postOf_8 rfl ?_
  refine pr_aload_n dX11_postOf_9 rfl ?_
  refine pr_getI dX11_postOf_10 lk_X11_193 lc_26 rfl ?_
  obtain ⟨q1, e2, h⟩ := pm_bs h
  refine pr_callS (av := [pv_i x1, pv_i (σ 26 8)]) (S := []) dX11_postOf_13 mk_X11_65 rfl rfl (Nat.le_of_ble_eq_true rfl) (by decide) (by decide) (Or.inl rfl) (tmX11_isNumber e2) ?_
  refine pr_if_ne (tgt := 25) dX11_postOf_16 rfl (by decide) (fun c_3 => ?_) (fun c_3 => ?_)
  · have h := pm_ng c_3 h
    refine pr_iload_n dX11_postOf_25 rfl ?_
    by_cases c_6_0 : (wr x2) = 0
    · have h := pm_pos c_6_0 h
      refine pr_tsIn (j := 0) (tgt := 72) dX11_postOf_26 rfl (c_6_0.trans (by decide)) (by decide) rfl (by decide) ?_
      refine pr_aload_n dX11_postOf_72 rfl ?_
      refine pr_iload_n dX11_postOf_73 rfl ?_
      obtain ⟨q14, e15, h⟩ := pm_bs h
      refine pr_callV (As := [pv_i x1]) (S := []) (t := 26) dX11_postOf_74 mk_X11_196 lc_26 (ci := 6) (q := (RX6, TX6, 12)) rfl rfl rfl rfl (Nat.le_of_ble_eq_true rfl) (by decide) (by decide) (Or.inl rfl) (tmX6_stateOf (Or.inl rfl) e15) ?_
      have h := Option.some.inj h
      subst h
      exact pr_iret dX11_postOf_77 rfl
    · have h := pm_ng c_6_0 h
      by_cases c_6_1 : (wr x2) = 1
      · have h := pm_pos c_6_1 h
        refine pr_tsIn (j := 1) (tgt := 78) dX11_postOf_26 rfl (c_6_1.trans (by decide)) (by decide) rfl (by decide) ?_
        refine pr_aload_n dX11_postOf_78 rfl ?_
        refine pr_getR dX11_postOf_79 lk_X11_298 lc_26 rfl ?_
        refine pr_iload_n dX11_postOf_82 rfl ?_
        obtain ⟨g_13, h⟩ := pm_gs h
        refine pr_iald dX11_postOf_83 lc_30 rfl g_13 ?_
        have h := Option.some.inj h
        subst h
        exact pr_iret dX11_postOf_84 rfl
      · have h := pm_ng c_6_1 h
        by_cases c_6_2 : (wr x2) = 2
        · have h := pm_pos c_6_2 h
          refine pr_tsIn (j := 2) (tgt := 85) dX11_postOf_26 rfl (c_6_2.trans (by decide)) (by decide) rfl (by decide) ?_
          refine pr_aload_n dX11_postOf_85 rfl ?_
          refine pr_getR dX11_postOf_86 lk_X11_326 lc_26 rfl ?_
          refine pr_iload_n dX11_postOf_89 rfl ?_
          obtain ⟨g_12, h⟩ := pm_gs h
          refine pr_iald dX11_postOf_90 lc_31 rfl g_12 ?_
          have h := Option.some.inj h
          subst h
          exact pr_iret dX11_postOf_91 rfl
        · have h := pm_ng c_6_2 h
          by_cases c_6_3 : (wr x2) = 3
          · have h := pm_pos c_6_3 h
            refine pr_tsIn (j := 3) (tgt := 92) dX11_postOf_26 rfl (c_6_3.trans (by decide)) (by decide) rfl (by decide) ?_
            refine pr_aload_n dX11_postOf_92 rfl ?_
            refine pr_getR dX11_postOf_93 lk_X11_302 lc_26 rfl ?_
            refine pr_iload_n dX11_postOf_96 rfl ?_
            obtain ⟨g_11, h⟩ := pm_gs h
            refine pr_iald dX11_postOf_97 lc_32 rfl g_11 ?_
            have h := Option.some.inj h
            subst h
            exact pr_iret dX11_postOf_98 rfl
          · have h := pm_ng c_6_3 h
            by_cases c_6_4 : (wr x2) = 4
            · have h := pm_pos c_6_4 h
              refine pr_tsIn (j := 4) (tgt := 99) dX11_postOf_26 rfl (c_6_4.trans (by decide)) (by decide) rfl (by decide) ?_
              refine pr_aload_n dX11_postOf_99 rfl ?_
              refine pr_getR dX11_postOf_100 lk_X11_327 lc_26 rfl ?_
              refine pr_iload_n dX11_postOf_103 rfl ?_
              obtain ⟨g_10, h⟩ := pm_gs h
              refine pr_iald dX11_postOf_104 lc_33 rfl g_10 ?_
              have h := Option.some.inj h
              subst h
              exact pr_iret dX11_postOf_105 rfl
            · have h := pm_ng c_6_4 h
              by_cases c_6_5 : (wr x2) = 5
              · have h := pm_pos c_6_5 h
                refine pr_tsIn (j := 5) (tgt := 106) dX11_postOf_26 rfl (c_6_5.trans (by decide)) (by decide) rfl (by decide) ?_
                refine pr_aload_n dX11_postOf_106 rfl ?_
                refine pr_getR dX11_postOf_107 lk_X11_330 lc_26 rfl ?_
                refine pr_iload_n dX11_postOf_110 rfl ?_
                obtain ⟨g_9, h⟩ := pm_gs h
                refine pr_iald dX11_postOf_111 lc_34 rfl g_9 ?_
                have h := Option.some.inj h
                subst h
                exact pr_iret dX11_postOf_112 rfl
              · have h := pm_ng c_6_5 h
                by_cases c_6_6 : (wr x2) = 6
                · have h := pm_pos c_6_6 h
                  refine pr_tsIn (j := 6) (tgt := 113) dX11_postOf_26 rfl (c_6_6.trans (by decide)) (by decide) rfl (by decide) ?_
                  refine pr_aload_n dX11_postOf_113 rfl ?_
                  refine pr_getR dX11_postOf_114 lk_X11_333 lc_26 rfl ?_
                  refine pr_iload_n dX11_postOf_117 rfl ?_
                  obtain ⟨g_8, h⟩ := pm_gs h
                  refine pr_iald dX11_postOf_118 lc_35 rfl g_8 ?_
                  have h := Option.some.inj h
                  subst h
                  exact pr_iret dX11_postOf_119 rfl
                · have h := pm_ng c_6_6 h
                  by_cases c_6_7 : (wr x2) = 7
                  · have h := pm_pos c_6_7 h
                    refine pr_tsIn (j := 7) (tgt := 120) dX11_postOf_26 rfl (c_6_7.trans (by decide)) (by decide) rfl (by decide) ?_
                    refine pr_aload_n dX11_postOf_120 rfl ?_
                    refine pr_getR dX11_postOf_121 lk_X11_336 lc_26 rfl ?_
                    refine pr_iload_n dX11_postOf_124 rfl ?_
                    obtain ⟨g_7, h⟩ := pm_gs h
                    refine pr_iald dX11_postOf_125 lc_36 rfl g_7 ?_
                    have h := Option.some.inj h
                    subst h
                    exact pr_iret dX11_postOf_126 rfl
                  · have h := pm_ng c_6_7 h
                    refine pr_tsOut (tgt := 127) dX11_postOf_26 rfl (by omega) (by decide) ?_
                    refine pr_aload_n dX11_postOf_127 rfl ?_
                    refine pr_bipush dX11_postOf_128 (by decide) ?_
                    obtain ⟨q4, e5, h⟩ := pm_bs h
                    refine pr_callV (As := [pv_i (-2)]) (S := []) (t := 0) dX11_postOf_130 mk_X11_69 lc_0 (ci := 11) (q := (RX11, TX11, 11)) rfl rfl rfl rfl (Nat.le_of_ble_eq_true rfl) (by decide) (by decide) (Or.inl rfl) (tmX11_refuse e5) ?_
                    have h := Option.some.inj h
                    subst h
                    exact pr_iret dX11_postOf_133 rfl
  · have h := pm_pos c_3 h
    refine pr_aload_n dX11_postOf_19 rfl ?_
    refine pr_iconst dX11_postOf_20 ?_
    obtain ⟨q16, e17, h⟩ := pm_bs h
    refine pr_callV (As := [pv_i (-1)]) (S := []) (t := 0) dX11_postOf_21 mk_X11_69 lc_0 (ci := 11) (q := (RX11, TX11, 11)) rfl rfl rfl rfl (Nat.le_of_ble_eq_true rfl) (by decide) (by decide) (Or.inl rfl) (tmX11_refuse e17) ?_
    have h := Option.some.inj h
    subst h
    exact pr_iret dX11_postOf_24 rfl
def fX11_orderOf (x1 : Int) (x2 : Int) (σ : pm_M) : Option (Int × pm_M) :=
  (fX11_isNumber x1 (σ 81 6)).bind fun q1 => if (wr q1) = 0 then ((fX11_refuse (-1) σ).bind fun q13 => some (q13.1, q13.2)) else (if (wr x2) = 0 then (pm_g (0 ≤ (wr x1) ∧ (wr x1) < 12) (some ((σ 82 (Int.toNat (wr x1))), σ))) else (if (wr x2) = 1 then (pm_g (0 ≤ (wr x1) ∧ (wr x1) < 12) (some ((σ 83 (Int.toNat (wr x1))), σ))) else (if (wr x2) = 2 then (pm_g (0 ≤ (wr x1) ∧ (wr x1) < 12) (some ((σ 84 (Int.toNat (wr x1))), σ))) else (if (wr x2) = 3 then (pm_g (0 ≤ (wr x1) ∧ (wr x1) < 12) (some ((σ 85 (Int.toNat (wr x1))), σ))) else (if (wr x2) = 4 then (pm_g (0 ≤ (wr x1) ∧ (wr x1) < 12) (some ((σ 86 (Int.toNat (wr x1))), σ))) else (if (wr x2) = 5 then (pm_g (0 ≤ (wr x1) ∧ (wr x1) < 12) (some ((σ 87 (Int.toNat (wr x1))), σ))) else ((fX11_refuse (-2) σ).bind fun q4 => some (q4.1, q4.2))))))))
set_option maxHeartbeats 4000000 in
set_option maxRecDepth 100000 in
theorem tmX11_orderOf {x1 : Int} {x2 : Int} {σ : pm_M} {ρ : Int × pm_M} (h : fX11_orderOf x1 x2 σ = some ρ) : pm_C mX11_orderOf 1 21 [pv_r 0, pv_i x1, pv_i x2] LAYC σ (some (pv_i ρ.1)) LAYC ρ.2 := by
  refine pm_C.of (by decide) rfl (Nat.le_of_ble_eq_true rfl) ?_
  show pm_J mX11_orderOf 1 21 LAYC (some (pv_i ρ.1)) LAYC ρ.2 0 [some (pv_r 0), some (pv_i x1), some (pv_i x2)] [] LAYC σ
  unfold fX11_orderOf at h
  refine pr_iload_n dX11_orderOf_0 rfl ?_
  refine pr_aload_n dX11_orderOf_1 rfl ?_
  refine pr_getR dX11_orderOf_2 lk_X11_38 lc_0 rfl ?_
  refine pr_getI dX11_orderOf_5 lk_X11_205 lc_81 rfl ?_
  obtain ⟨q1, e2, h⟩ := pm_bs h
  refine pr_callS (av := [pv_i x1, pv_i (σ 81 6)]) (S := []) dX11_orderOf_8 mk_X11_65 rfl rfl (Nat.le_of_ble_eq_true rfl) (by decide) (by decide) (Or.inl rfl) (tmX11_isNumber e2) ?_
  refine pr_if_ne (tgt := 20) dX11_orderOf_11 rfl (by decide) (fun c_3 => ?_) (fun c_3 => ?_)
  · have h := pm_ng c_3 h
    refine pr_iload_n dX11_orderOf_20 rfl ?_
    by_cases c_6_0 : (wr x2) = 0
    · have h := pm_pos c_6_0 h
      refine pr_tsIn (j := 0) (tgt := 60) dX11_orderOf_21 rfl (c_6_0.trans (by decide)) (by decide) rfl (by decide) ?_
      refine pr_aload_n dX11_orderOf_60 rfl ?_
      refine pr_getR dX11_orderOf_61 lk_X11_38 lc_0 rfl ?_
      refine pr_getR dX11_orderOf_64 lk_X11_212 lc_81 rfl ?_
      refine pr_iload_n dX11_orderOf_67 rfl ?_
      obtain ⟨g_12, h⟩ := pm_gs h
      refine pr_iald dX11_orderOf_68 lc_82 rfl g_12 ?_
      have h := Option.some.inj h
      subst h
      exact pr_iret dX11_orderOf_69 rfl
    · have h := pm_ng c_6_0 h
      by_cases c_6_1 : (wr x2) = 1
      · have h := pm_pos c_6_1 h
        refine pr_tsIn (j := 1) (tgt := 70) dX11_orderOf_21 rfl (c_6_1.trans (by decide)) (by decide) rfl (by decide) ?_
        refine pr_aload_n dX11_orderOf_70 rfl ?_
        refine pr_getR dX11_orderOf_71 lk_X11_38 lc_0 rfl ?_
        refine pr_getR dX11_orderOf_74 lk_X11_213 lc_81 rfl ?_
        refine pr_iload_n dX11_orderOf_77 rfl ?_
        obtain ⟨g_11, h⟩ := pm_gs h
        refine pr_iald dX11_orderOf_78 lc_83 rfl g_11 ?_
        have h := Option.some.inj h
        subst h
        exact pr_iret dX11_orderOf_79 rfl
      · have h := pm_ng c_6_1 h
        by_cases c_6_2 : (wr x2) = 2
        · have h := pm_pos c_6_2 h
          refine pr_tsIn (j := 2) (tgt := 80) dX11_orderOf_21 rfl (c_6_2.trans (by decide)) (by decide) rfl (by decide) ?_
          refine pr_aload_n dX11_orderOf_80 rfl ?_
          refine pr_getR dX11_orderOf_81 lk_X11_38 lc_0 rfl ?_
          refine pr_getR dX11_orderOf_84 lk_X11_219 lc_81 rfl ?_
          refine pr_iload_n dX11_orderOf_87 rfl ?_
          obtain ⟨g_10, h⟩ := pm_gs h
          refine pr_iald dX11_orderOf_88 lc_84 rfl g_10 ?_
          have h := Option.some.inj h
          subst h
          exact pr_iret dX11_orderOf_89 rfl
        · have h := pm_ng c_6_2 h
          by_cases c_6_3 : (wr x2) = 3
          · have h := pm_pos c_6_3 h
            refine pr_tsIn (j := 3) (tgt := 90) dX11_orderOf_21 rfl (c_6_3.trans (by decide)) (by decide) rfl (by decide) ?_
            refine pr_aload_n dX11_orderOf_90 rfl ?_
            refine pr_getR dX11_orderOf_91 lk_X11_38 lc_0 rfl ?_
            refine pr_getR dX11_orderOf_94 lk_X11_339 lc_81 rfl ?_
            refine pr_iload_n dX11_orderOf_97 rfl ?_
            obtain ⟨g_9, h⟩ := pm_gs h
            refine pr_iald dX11_orderOf_98 lc_85 rfl g_9 ?_
            have h := Option.some.inj h
            subst h
            exact pr_iret dX11_orderOf_99 rfl
          · have h := pm_ng c_6_3 h
            by_cases c_6_4 : (wr x2) = 4
            · have h := pm_pos c_6_4 h
              refine pr_tsIn (j := 4) (tgt := 100) dX11_orderOf_21 rfl (c_6_4.trans (by decide)) (by decide) rfl (by decide) ?_
              refine pr_aload_n dX11_orderOf_100 rfl ?_
              refine pr_getR dX11_orderOf_101 lk_X11_38 lc_0 rfl ?_
              refine pr_getR dX11_orderOf_104 lk_X11_342 lc_81 rfl ?_
              refine pr_iload_n dX11_orderOf_107 rfl ?_
              obtain ⟨g_8, h⟩ := pm_gs h
              refine pr_iald dX11_orderOf_108 lc_86 rfl g_8 ?_
              have h := Option.some.inj h
              subst h
              exact pr_iret dX11_orderOf_109 rfl
            · have h := pm_ng c_6_4 h
              by_cases c_6_5 : (wr x2) = 5
              · have h := pm_pos c_6_5 h
                refine pr_tsIn (j := 5) (tgt := 110) dX11_orderOf_21 rfl (c_6_5.trans (by decide)) (by decide) rfl (by decide) ?_
                refine pr_aload_n dX11_orderOf_110 rfl ?_
                refine pr_getR dX11_orderOf_111 lk_X11_38 lc_0 rfl ?_
                refine pr_getR dX11_orderOf_114 lk_X11_225 lc_81 rfl ?_
                refine pr_iload_n dX11_orderOf_117 rfl ?_
                obtain ⟨g_7, h⟩ := pm_gs h
                refine pr_iald dX11_orderOf_118 lc_87 rfl g_7 ?_
                have h := Option.some.inj h
                subst h
                exact pr_iret dX11_orderOf_119 rfl
              · have h := pm_ng c_6_5 h
                refine pr_tsOut (tgt := 120) dX11_orderOf_21 rfl (by omega) (by decide) ?_
                refine pr_aload_n dX11_orderOf_120 rfl ?_
                refine pr_bipush dX11_orderOf_121 (by decide) ?_
                obtain ⟨q4, e5, h⟩ := pm_bs h
                refine pr_callV (As := [pv_i (-2)]) (S := []) (t := 0) dX11_orderOf_123 mk_X11_69 lc_0 (ci := 11) (q := (RX11, TX11, 11)) rfl rfl rfl rfl (Nat.le_of_ble_eq_true rfl) (by decide) (by decide) (Or.inl rfl) (tmX11_refuse e5) ?_
                have h := Option.some.inj h
                subst h
                exact pr_iret dX11_orderOf_126 rfl
  · have h := pm_pos c_3 h
    refine pr_aload_n dX11_orderOf_14 rfl ?_
    refine pr_iconst dX11_orderOf_15 ?_
    obtain ⟨q13, e14, h⟩ := pm_bs h
    refine pr_callV (As := [pv_i (-1)]) (S := []) (t := 0) dX11_orderOf_16 mk_X11_69 lc_0 (ci := 11) (q := (RX11, TX11, 11)) rfl rfl rfl rfl (Nat.le_of_ble_eq_true rfl) (by decide) (by decide) (Or.inl rfl) (tmX11_refuse e14) ?_
    have h := Option.some.inj h
    subst h
    exact pr_iret dX11_orderOf_19 rfl
def fX11_sheets (x1 : Int) (x2 : Int) (σ : pm_M) : Option (Int × pm_M) :=
  (fX11_isNumber x1 9).bind fun q1 => if (wr q1) = 0 then ((fX11_refuse (-1) σ).bind fun q4 => some (q4.1, q4.2)) else ((fX11_isWeight x2).bind fun q6 => if (wr q6) = 0 then ((fX11_refuse (-1) σ).bind fun q12 => some (q12.1, q12.2)) else ((fX11_shelfOf x1 x2).bind fun q9 => pm_g (0 ≤ (wr q9) ∧ (wr q9) < 81) (some ((σ 92 (Int.toNat (wr q9))), σ))))
set_option maxHeartbeats 4000000 in
set_option maxRecDepth 100000 in
theorem tmX11_sheets {x1 : Int} {x2 : Int} {σ : pm_M} {ρ : Int × pm_M} (h : fX11_sheets x1 x2 σ = some ρ) : pm_C mX11_sheets 1 21 [pv_r 0, pv_i x1, pv_i x2] LAYC σ (some (pv_i ρ.1)) LAYC ρ.2 := by
  refine pm_C.of (by decide) rfl (Nat.le_of_ble_eq_true rfl) ?_
  show pm_J mX11_sheets 1 21 LAYC (some (pv_i ρ.1)) LAYC ρ.2 0 [some (pv_r 0), some (pv_i x1), some (pv_i x2)] [] LAYC σ
  unfold fX11_sheets at h
  refine pr_iload_n dX11_sheets_0 rfl ?_
  refine pr_bipush dX11_sheets_1 (by decide) ?_
  obtain ⟨q1, e2, h⟩ := pm_bs h
  refine pr_callS (av := [pv_i x1, pv_i 9]) (S := []) dX11_sheets_3 mk_X11_65 rfl rfl (Nat.le_of_ble_eq_true rfl) (by decide) (by decide) (Or.inl rfl) (tmX11_isNumber e2) ?_
  refine pr_if_eq (tgt := 16) dX11_sheets_6 rfl (by decide) (fun c_3 => ?_) (fun c_3 => ?_)
  · have h := pm_pos c_3 h
    refine pr_aload_n dX11_sheets_16 rfl ?_
    refine pr_iconst dX11_sheets_17 ?_
    obtain ⟨q4, e5, h⟩ := pm_bs h
    refine pr_callV (As := [pv_i (-1)]) (S := []) (t := 0) dX11_sheets_18 mk_X11_69 lc_0 (ci := 11) (q := (RX11, TX11, 11)) rfl rfl rfl rfl (Nat.le_of_ble_eq_true rfl) (by decide) (by decide) (Or.inl rfl) (tmX11_refuse e5) ?_
    have h := Option.some.inj h
    subst h
    exact pr_iret dX11_sheets_21 rfl
  · have h := pm_ng c_3 h
    refine pr_iload_n dX11_sheets_9 rfl ?_
    obtain ⟨q6, e7, h⟩ := pm_bs h
    refine pr_callS (av := [pv_i x2]) (S := []) dX11_sheets_10 mk_X11_139 rfl rfl (Nat.le_of_ble_eq_true rfl) (by decide) (by decide) (Or.inl rfl) (tmX11_isWeight e7) ?_
    refine pr_if_ne (tgt := 22) dX11_sheets_13 rfl (by decide) (fun c_8 => ?_) (fun c_8 => ?_)
    · have h := pm_ng c_8 h
      refine pr_aload_n dX11_sheets_22 rfl ?_
      refine pr_getR dX11_sheets_23 lk_X11_59 lc_0 rfl ?_
      refine pr_iload_n dX11_sheets_26 rfl ?_
      refine pr_iload_n dX11_sheets_27 rfl ?_
      obtain ⟨q9, e10, h⟩ := pm_bs h
      refine pr_callS (av := [pv_i x1, pv_i x2]) (S := [pv_r 92]) dX11_sheets_28 mk_X11_216 rfl rfl (Nat.le_of_ble_eq_true rfl) (by decide) (by decide) (Or.inl rfl) (tmX11_shelfOf e10) ?_
      obtain ⟨g_11, h⟩ := pm_gs h
      refine pr_iald dX11_sheets_31 lc_92 rfl g_11 ?_
      have h := Option.some.inj h
      subst h
      exact pr_iret dX11_sheets_32 rfl
    · have h := pm_pos c_8 h
      refine pr_aload_n dX11_sheets_16 rfl ?_
      refine pr_iconst dX11_sheets_17 ?_
      obtain ⟨q12, e13, h⟩ := pm_bs h
      refine pr_callV (As := [pv_i (-1)]) (S := []) (t := 0) dX11_sheets_18 mk_X11_69 lc_0 (ci := 11) (q := (RX11, TX11, 11)) rfl rfl rfl rfl (Nat.le_of_ble_eq_true rfl) (by decide) (by decide) (Or.inl rfl) (tmX11_refuse e13) ?_
      have h := Option.some.inj h
      subst h
      exact pr_iret dX11_sheets_21 rfl
def jnX11_count_72 (w1 : Int) (σ : pm_M) : Option (Int) :=
  if (wr w1) = 0 then (some (σ 15 7)) else (if (wr w1) = 1 then (some (σ 43 5)) else (if (wr w1) = 2 then (some (σ 22 3)) else (if (wr w1) = 3 then (some (σ 26 8)) else (if (wr w1) = 4 then (some (σ 81 6)) else (if (wr w1) = 5 then (some ((σ 0 10) + 1000000000)) else (if (wr w1) = 6 then (some (σ 0 9)) else (if (wr w1) = 7 then (some (σ 37 8)) else (if (wr w1) = 8 then (some (σ 43 6)) else (if (wr w1) = 9 then ((fX6_hanging 15 σ).bind fun q5 => some q5) else (some (-9)))))))))))
set_option maxHeartbeats 4000000 in
set_option maxRecDepth 100000 in
theorem tjX11_count_72 {lay0 : List pm_S} {w1 : Int} {σ : pm_M} {ρ : Int} (h : jnX11_count_72 w1 σ = some ρ) : pm_J mX11_count 1 20 lay0 (some (pv_i ρ)) LAYC σ 72 [some (pv_r 0), some (pv_i w1)] [] LAYC σ := by
  unfold jnX11_count_72 at h
  refine pr_iload_n dX11_count_72 rfl ?_
  by_cases c_4_0 : (wr w1) = 0
  · have h := pm_pos c_4_0 h
    refine pr_tsIn (j := 0) (tgt := 128) dX11_count_73 rfl (c_4_0.trans (by decide)) (by decide) rfl (by decide) ?_
    refine pr_aload_n dX11_count_128 rfl ?_
    refine pr_getR dX11_count_129 lk_X11_28 lc_0 rfl ?_
    refine pr_getI dX11_count_132 lk_X11_109 lc_15 rfl ?_
    have h := Option.some.inj h
    subst h
    exact pr_iret dX11_count_135 rfl
  · have h := pm_ng c_4_0 h
    by_cases c_4_1 : (wr w1) = 1
    · have h := pm_pos c_4_1 h
      refine pr_tsIn (j := 1) (tgt := 136) dX11_count_73 rfl (c_4_1.trans (by decide)) (by decide) rfl (by decide) ?_
      refine pr_aload_n dX11_count_136 rfl ?_
      refine pr_getR dX11_count_137 lk_X11_28 lc_0 rfl ?_
      refine pr_getR dX11_count_140 lk_X11_99 lc_15 rfl ?_
      refine pr_getI dX11_count_143 lk_X11_103 lc_43 rfl ?_
      have h := Option.some.inj h
      subst h
      exact pr_iret dX11_count_146 rfl
    · have h := pm_ng c_4_1 h
      by_cases c_4_2 : (wr w1) = 2
      · have h := pm_pos c_4_2 h
        refine pr_tsIn (j := 2) (tgt := 147) dX11_count_73 rfl (c_4_2.trans (by decide)) (by decide) rfl (by decide) ?_
        refine pr_aload_n dX11_count_147 rfl ?_
        refine pr_getR dX11_count_148 lk_X11_28 lc_0 rfl ?_
        refine pr_getR dX11_count_151 lk_X11_142 lc_15 rfl ?_
        refine pr_getI dX11_count_154 lk_X11_146 lc_22 rfl ?_
        have h := Option.some.inj h
        subst h
        exact pr_iret dX11_count_157 rfl
      · have h := pm_ng c_4_2 h
        by_cases c_4_3 : (wr w1) = 3
        · have h := pm_pos c_4_3 h
          refine pr_tsIn (j := 3) (tgt := 158) dX11_count_73 rfl (c_4_3.trans (by decide)) (by decide) rfl (by decide) ?_
          refine pr_aload_n dX11_count_158 rfl ?_
          refine pr_getR dX11_count_159 lk_X11_28 lc_0 rfl ?_
          refine pr_getR dX11_count_162 lk_X11_44 lc_15 rfl ?_
          refine pr_getI dX11_count_165 lk_X11_193 lc_26 rfl ?_
          have h := Option.some.inj h
          subst h
          exact pr_iret dX11_count_168 rfl
        · have h := pm_ng c_4_3 h
          by_cases c_4_4 : (wr w1) = 4
          · have h := pm_pos c_4_4 h
            refine pr_tsIn (j := 4) (tgt := 169) dX11_count_73 rfl (c_4_4.trans (by decide)) (by decide) rfl (by decide) ?_
            refine pr_aload_n dX11_count_169 rfl ?_
            refine pr_getR dX11_count_170 lk_X11_38 lc_0 rfl ?_
            refine pr_getI dX11_count_173 lk_X11_205 lc_81 rfl ?_
            have h := Option.some.inj h
            subst h
            exact pr_iret dX11_count_176 rfl
          · have h := pm_ng c_4_4 h
            by_cases c_4_5 : (wr w1) = 5
            · have h := pm_pos c_4_5 h
              refine pr_tsIn (j := 5) (tgt := 177) dX11_count_73 rfl (c_4_5.trans (by decide)) (by decide) rfl (by decide) ?_
              refine pr_aload_n dX11_count_177 rfl ?_
              refine pr_getI dX11_count_178 lk_X11_235 lc_0 rfl ?_
              refine pr_ldc dX11_count_181 lkc_X11_211 ?_
              refine pr_iadd dX11_count_183 ?_
              have h := Option.some.inj h
              subst h
              exact pr_iret dX11_count_184 rfl
            · have h := pm_ng c_4_5 h
              by_cases c_4_6 : (wr w1) = 6
              · have h := pm_pos c_4_6 h
                refine pr_tsIn (j := 6) (tgt := 185) dX11_count_73 rfl (c_4_6.trans (by decide)) (by decide) rfl (by decide) ?_
                refine pr_aload_n dX11_count_185 rfl ?_
                refine pr_getI dX11_count_186 lk_X11_190 lc_0 rfl ?_
                have h := Option.some.inj h
                subst h
                exact pr_iret dX11_count_189 rfl
              · have h := pm_ng c_4_6 h
                by_cases c_4_7 : (wr w1) = 7
                · have h := pm_pos c_4_7 h
                  refine pr_tsIn (j := 7) (tgt := 190) dX11_count_73 rfl (c_4_7.trans (by decide)) (by decide) rfl (by decide) ?_
                  refine pr_aload_n dX11_count_190 rfl ?_
                  refine pr_getR dX11_count_191 lk_X11_28 lc_0 rfl ?_
                  refine pr_getR dX11_count_194 lk_X11_157 lc_15 rfl ?_
                  refine pr_getI dX11_count_197 lk_X11_259 lc_37 rfl ?_
                  have h := Option.some.inj h
                  subst h
                  exact pr_iret dX11_count_200 rfl
                · have h := pm_ng c_4_7 h
                  by_cases c_4_8 : (wr w1) = 8
                  · have h := pm_pos c_4_8 h
                    refine pr_tsIn (j := 8) (tgt := 201) dX11_count_73 rfl (c_4_8.trans (by decide)) (by decide) rfl (by decide) ?_
                    refine pr_aload_n dX11_count_201 rfl ?_
                    refine pr_getR dX11_count_202 lk_X11_28 lc_0 rfl ?_
                    refine pr_getR dX11_count_205 lk_X11_99 lc_15 rfl ?_
                    refine pr_getI dX11_count_208 lk_X11_262 lc_43 rfl ?_
                    have h := Option.some.inj h
                    subst h
                    exact pr_iret dX11_count_211 rfl
                  · have h := pm_ng c_4_8 h
                    by_cases c_4_9 : (wr w1) = 9
                    · have h := pm_pos c_4_9 h
                      refine pr_tsIn (j := 9) (tgt := 212) dX11_count_73 rfl (c_4_9.trans (by decide)) (by decide) rfl (by decide) ?_
                      refine pr_aload_n dX11_count_212 rfl ?_
                      refine pr_getR dX11_count_213 lk_X11_28 lc_0 rfl ?_
                      refine pr_getR dX11_count_216 lk_X11_44 lc_15 rfl ?_
                      obtain ⟨q5, e6, h⟩ := pm_bs h
                      refine pr_callV (As := []) (S := []) (t := 26) dX11_count_219 mk_X11_348 lc_26 (ci := 6) (q := (RX6, TX6, 12)) rfl rfl rfl rfl (Nat.le_of_ble_eq_true rfl) (by decide) (by decide) (Or.inl rfl) (tmX6_hanging (Or.inl rfl) e6) ?_
                      have h := Option.some.inj h
                      subst h
                      exact pr_iret dX11_count_222 rfl
                    · have h := pm_ng c_4_9 h
                      refine pr_tsOut (tgt := 223) dX11_count_73 rfl (by omega) (by decide) ?_
                      refine pr_bipush dX11_count_223 (by decide) ?_
                      have h := Option.some.inj h
                      subst h
                      exact pr_iret dX11_count_225 rfl
def jnX11_count_47 (w1 : Int) (σ : pm_M) : Option (Int) :=
  if (wr w1) < 30 then (jnX11_count_72 w1 σ) else (if 39 ≤ (wr w1) then (jnX11_count_72 w1 σ) else (pm_g (0 ≤ (wr (w1 - 30)) ∧ (wr (w1 - 30)) < 9) (some (σ 16 (Int.toNat (wr (w1 - 30)))))))
set_option maxHeartbeats 4000000 in
set_option maxRecDepth 100000 in
theorem tjX11_count_47 {lay0 : List pm_S} {w1 : Int} {σ : pm_M} {ρ : Int} (h : jnX11_count_47 w1 σ = some ρ) : pm_J mX11_count 1 20 lay0 (some (pv_i ρ)) LAYC σ 47 [some (pv_r 0), some (pv_i w1)] [] LAYC σ := by
  unfold jnX11_count_47 at h
  refine pr_iload_n dX11_count_47 rfl ?_
  refine pr_bipush dX11_count_48 (by decide) ?_
  refine pr_icmp_lt (tgt := 72) dX11_count_50 rfl (wr_eq (by decide) (by decide)) (by decide) (fun c_3 => ?_) (fun c_3 => ?_)
  · have h := pm_pos c_3 h
    refine pr_weak (L2 := [some (pv_r 0), some (pv_i w1)]) ⟨Or.inr rfl, Or.inr rfl, trivial⟩ ?_
    exact tjX11_count_72 h
  · have h := pm_ng c_3 h
    refine pr_iload_n dX11_count_53 rfl ?_
    refine pr_bipush dX11_count_54 (by decide) ?_
    refine pr_icmp_ge (tgt := 72) dX11_count_56 rfl (wr_eq (by decide) (by decide)) (by decide) (fun c_7 => ?_) (fun c_7 => ?_)
    · have h := pm_pos c_7 h
      refine pr_weak (L2 := [some (pv_r 0), some (pv_i w1)]) ⟨Or.inr rfl, Or.inr rfl, trivial⟩ ?_
      exact tjX11_count_72 h
    · have h := pm_ng c_7 h
      refine pr_aload_n dX11_count_59 rfl ?_
      refine pr_getR dX11_count_60 lk_X11_28 lc_0 rfl ?_
      refine pr_getR dX11_count_63 lk_X11_345 lc_15 rfl ?_
      refine pr_iload_n dX11_count_66 rfl ?_
      refine pr_bipush dX11_count_67 (by decide) ?_
      refine pr_isub dX11_count_69 ?_
      obtain ⟨g_8, h⟩ := pm_gs h
      refine pr_iald dX11_count_70 lc_16 rfl g_8 ?_
      have h := Option.some.inj h
      subst h
      exact pr_iret dX11_count_71 rfl
def jnX11_count_22 (w1 : Int) (σ : pm_M) : Option (Int) :=
  if (wr w1) < 20 then (jnX11_count_47 w1 σ) else (if 29 ≤ (wr w1) then (jnX11_count_47 w1 σ) else (pm_g (0 ≤ (wr (w1 - 20)) ∧ (wr (w1 - 20)) < 9) (some (σ 14 (Int.toNat (wr (w1 - 20)))))))
set_option maxHeartbeats 4000000 in
set_option maxRecDepth 100000 in
theorem tjX11_count_22 {lay0 : List pm_S} {w1 : Int} {σ : pm_M} {ρ : Int} (h : jnX11_count_22 w1 σ = some ρ) : pm_J mX11_count 1 20 lay0 (some (pv_i ρ)) LAYC σ 22 [some (pv_r 0), some (pv_i w1)] [] LAYC σ := by
  unfold jnX11_count_22 at h
  refine pr_iload_n dX11_count_22 rfl ?_
  refine pr_bipush dX11_count_23 (by decide) ?_
  refine pr_icmp_lt (tgt := 47) dX11_count_25 rfl (wr_eq (by decide) (by decide)) (by decide) (fun c_2 => ?_) (fun c_2 => ?_)
  · have h := pm_pos c_2 h
    refine pr_weak (L2 := [some (pv_r 0), some (pv_i w1)]) ⟨Or.inr rfl, Or.inr rfl, trivial⟩ ?_
    exact tjX11_count_47 h
  · have h := pm_ng c_2 h
    refine pr_iload_n dX11_count_28 rfl ?_
    refine pr_bipush dX11_count_29 (by decide) ?_
    refine pr_icmp_ge (tgt := 47) dX11_count_31 rfl (wr_eq (by decide) (by decide)) (by decide) (fun c_9 => ?_) (fun c_9 => ?_)
    · have h := pm_pos c_9 h
      refine pr_weak (L2 := [some (pv_r 0), some (pv_i w1)]) ⟨Or.inr rfl, Or.inr rfl, trivial⟩ ?_
      exact tjX11_count_47 h
    · have h := pm_ng c_9 h
      refine pr_aload_n dX11_count_34 rfl ?_
      refine pr_getR dX11_count_35 lk_X11_19 lc_0 rfl ?_
      refine pr_getR dX11_count_38 lk_X11_96 lc_10 rfl ?_
      refine pr_iload_n dX11_count_41 rfl ?_
      refine pr_bipush dX11_count_42 (by decide) ?_
      refine pr_isub dX11_count_44 ?_
      obtain ⟨g_10, h⟩ := pm_gs h
      refine pr_iald dX11_count_45 lc_14 rfl g_10 ?_
      have h := Option.some.inj h
      subst h
      exact pr_iret dX11_count_46 rfl
def fX11_count (x1 : Int) (σ : pm_M) : Option (Int) :=
  if (wr x1) < 11 then (jnX11_count_22 x1 σ) else (if 16 < (wr x1) then (jnX11_count_22 x1 σ) else (pm_g (0 ≤ (wr (x1 - 10)) ∧ (wr (x1 - 10)) < 7) (some (σ 93 (Int.toNat (wr (x1 - 10)))))))
set_option maxHeartbeats 4000000 in
set_option maxRecDepth 100000 in
theorem tmX11_count {x1 : Int} {σ : pm_M} {ρ : Int} (h : fX11_count x1 σ = some ρ) : pm_C mX11_count 1 20 [pv_r 0, pv_i x1] LAYC σ (some (pv_i ρ)) LAYC σ := by
  refine pm_C.of (by decide) rfl (Nat.le_of_ble_eq_true rfl) ?_
  show pm_J mX11_count 1 20 LAYC (some (pv_i ρ)) LAYC σ 0 [some (pv_r 0), some (pv_i x1)] [] LAYC σ
  unfold fX11_count at h
  refine pr_iload_n dX11_count_0 rfl ?_
  refine pr_bipush dX11_count_1 (by decide) ?_
  refine pr_icmp_lt (tgt := 22) dX11_count_3 rfl (wr_eq (by decide) (by decide)) (by decide) (fun c_1 => ?_) (fun c_1 => ?_)
  · have h := pm_pos c_1 h
    refine pr_weak (L2 := [some (pv_r 0), some (pv_i x1)]) ⟨Or.inr rfl, Or.inr rfl, trivial⟩ ?_
    exact tjX11_count_22 h
  · have h := pm_ng c_1 h
    refine pr_iload_n dX11_count_6 rfl ?_
    refine pr_bipush dX11_count_7 (by decide) ?_
    refine pr_icmp_gt (tgt := 22) dX11_count_9 rfl (wr_eq (by decide) (by decide)) (by decide) (fun c_11 => ?_) (fun c_11 => ?_)
    · have h := pm_pos c_11 h
      refine pr_weak (L2 := [some (pv_r 0), some (pv_i x1)]) ⟨Or.inr rfl, Or.inr rfl, trivial⟩ ?_
      exact tjX11_count_22 h
    · have h := pm_ng c_11 h
      refine pr_aload_n dX11_count_12 rfl ?_
      refine pr_getR dX11_count_13 lk_X11_62 lc_0 rfl ?_
      refine pr_iload_n dX11_count_16 rfl ?_
      refine pr_bipush dX11_count_17 (by decide) ?_
      refine pr_isub dX11_count_19 ?_
      obtain ⟨g_12, h⟩ := pm_gs h
      refine pr_iald dX11_count_20 lc_93 rfl g_12 ?_
      have h := Option.some.inj h
      subst h
      exact pr_iret dX11_count_21 rfl
