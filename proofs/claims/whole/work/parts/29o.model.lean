def fX12_vatOf (x1 : Int) (x2 : Int) (σ : pm_M) : Option (Int × pm_M) :=
  (fX12_isIn x1 3).bind fun q1 => if (wr q1) = 0 then ((fX12_refuse (-1) σ).bind fun q13 => some (q13.1, q13.2)) else (if (wr x2) = 0 then (pm_g (0 ≤ (wr x1) ∧ (wr x1) < 3) (if 0 ≤ (wr (σ 14 (Int.toNat (wr x1)))) then (pm_g (0 ≤ (wr x1) ∧ (wr x1) < 3) (some ((σ 14 (Int.toNat (wr x1))), σ))) else (some ((-9), σ)))) else (if (wr x2) = 1 then (pm_g (0 ≤ (wr x1) ∧ (wr x1) < 3) (some ((σ 15 (Int.toNat (wr x1))), σ))) else (if (wr x2) = 2 then (pm_g (0 ≤ (wr (105 + (2 * x1))) ∧ (wr (105 + (2 * x1))) < 755) (some ((σ 25 (Int.toNat (wr (105 + (2 * x1))))), σ))) else (if (wr x2) = 3 then (pm_g (0 ≤ (wr ((105 + (2 * x1)) + 1)) ∧ (wr ((105 + (2 * x1)) + 1)) < 755) (some ((σ 25 (Int.toNat (wr ((105 + (2 * x1)) + 1)))), σ))) else ((fX12_refuse (-2) σ).bind fun q4 => some (q4.1, q4.2))))))
set_option maxHeartbeats 4000000 in
set_option maxRecDepth 100000 in
theorem tmX12_vatOf {x1 : Int} {x2 : Int} {σ : pm_M} {ρ : Int × pm_M} (h : fX12_vatOf x1 x2 σ = some ρ) : pm_C mX12_vatOf 1 21 [pv_r 0, pv_i x1, pv_i x2] LAYM σ (some (pv_i ρ.1)) LAYM ρ.2 := by
  refine pm_C.of (by decide) rfl (Nat.le_of_ble_eq_true rfl) ?_
  show pm_J mX12_vatOf 1 21 LAYM (some (pv_i ρ.1)) LAYM ρ.2 0 [some (pv_r 0), some (pv_i x1), some (pv_i x2)] [] LAYM σ
  unfold fX12_vatOf at h
  refine pr_iload_n dX12_vatOf_0 rfl ?_
  refine pr_iconst dX12_vatOf_1 ?_
  obtain ⟨q1, e2, h⟩ := pm_bs h
  refine pr_callS (av := [pv_i x1, pv_i 3]) (S := []) dX12_vatOf_2 mk_X12_95 rfl rfl (Nat.le_of_ble_eq_true rfl) (by decide) (by decide) (Or.inl rfl) (tmX12_isIn e2) ?_
  refine pr_if_ne (tgt := 14) dX12_vatOf_5 rfl (by decide) (fun c_3 => ?_) (fun c_3 => ?_)
  · have h := pm_ng c_3 h
    refine pr_iload_n dX12_vatOf_14 rfl ?_
    by_cases c_6_0 : (wr x2) = 0
    · have h := pm_pos c_6_0 h
      refine pr_tsIn (j := 0) (tgt := 44) dX12_vatOf_15 rfl (c_6_0.trans (by decide)) (by decide) rfl (by decide) ?_
      refine pr_aload_n dX12_vatOf_44 rfl ?_
      refine pr_getR dX12_vatOf_45 lk_X12_49 lm_0 rfl ?_
      refine pr_iload_n dX12_vatOf_48 rfl ?_
      obtain ⟨g_10, h⟩ := pm_gs h
      refine pr_iald dX12_vatOf_49 lm_14 rfl g_10 ?_
      refine pr_if_ge (tgt := 58) dX12_vatOf_50 rfl (by decide) (fun c_11 => ?_) (fun c_11 => ?_)
      · have h := pm_pos c_11 h
        refine pr_aload_n dX12_vatOf_58 rfl ?_
        refine pr_getR dX12_vatOf_59 lk_X12_49 lm_0 rfl ?_
        refine pr_iload_n dX12_vatOf_62 rfl ?_
        obtain ⟨g_12, h⟩ := pm_gs h
        refine pr_iald dX12_vatOf_63 lm_14 rfl g_12 ?_
        have h := Option.some.inj h
        subst h
        exact pr_iret dX12_vatOf_64 rfl
      · have h := pm_ng c_11 h
        refine pr_bipush dX12_vatOf_53 (by decide) ?_
        refine pr_goto (tgt := 64) dX12_vatOf_55 (by decide) ?_
        have h := Option.some.inj h
        subst h
        exact pr_iret dX12_vatOf_64 rfl
    · have h := pm_ng c_6_0 h
      by_cases c_6_1 : (wr x2) = 1
      · have h := pm_pos c_6_1 h
        refine pr_tsIn (j := 1) (tgt := 65) dX12_vatOf_15 rfl (c_6_1.trans (by decide)) (by decide) rfl (by decide) ?_
        refine pr_aload_n dX12_vatOf_65 rfl ?_
        refine pr_getR dX12_vatOf_66 lk_X12_52 lm_0 rfl ?_
        refine pr_iload_n dX12_vatOf_69 rfl ?_
        obtain ⟨g_9, h⟩ := pm_gs h
        refine pr_iald dX12_vatOf_70 lm_15 rfl g_9 ?_
        have h := Option.some.inj h
        subst h
        exact pr_iret dX12_vatOf_71 rfl
      · have h := pm_ng c_6_1 h
        by_cases c_6_2 : (wr x2) = 2
        · have h := pm_pos c_6_2 h
          refine pr_tsIn (j := 2) (tgt := 72) dX12_vatOf_15 rfl (c_6_2.trans (by decide)) (by decide) rfl (by decide) ?_
          refine pr_aload_n dX12_vatOf_72 rfl ?_
          refine pr_getR dX12_vatOf_73 lk_X12_86 lm_0 rfl ?_
          refine pr_bipush dX12_vatOf_76 (by decide) ?_
          refine pr_iconst dX12_vatOf_78 ?_
          refine pr_iload_n dX12_vatOf_79 rfl ?_
          refine pr_imul dX12_vatOf_80 ?_
          refine pr_iadd dX12_vatOf_81 ?_
          obtain ⟨g_8, h⟩ := pm_gs h
          refine pr_iald dX12_vatOf_82 lm_25 rfl g_8 ?_
          have h := Option.some.inj h
          subst h
          exact pr_iret dX12_vatOf_83 rfl
        · have h := pm_ng c_6_2 h
          by_cases c_6_3 : (wr x2) = 3
          · have h := pm_pos c_6_3 h
            refine pr_tsIn (j := 3) (tgt := 84) dX12_vatOf_15 rfl (c_6_3.trans (by decide)) (by decide) rfl (by decide) ?_
            refine pr_aload_n dX12_vatOf_84 rfl ?_
            refine pr_getR dX12_vatOf_85 lk_X12_86 lm_0 rfl ?_
            refine pr_bipush dX12_vatOf_88 (by decide) ?_
            refine pr_iconst dX12_vatOf_90 ?_
            refine pr_iload_n dX12_vatOf_91 rfl ?_
            refine pr_imul dX12_vatOf_92 ?_
            refine pr_iadd dX12_vatOf_93 ?_
            refine pr_iconst dX12_vatOf_94 ?_
            refine pr_iadd dX12_vatOf_95 ?_
            obtain ⟨g_7, h⟩ := pm_gs h
            refine pr_iald dX12_vatOf_96 lm_25 rfl g_7 ?_
            have h := Option.some.inj h
            subst h
            exact pr_iret dX12_vatOf_97 rfl
          · have h := pm_ng c_6_3 h
            refine pr_tsOut (tgt := 98) dX12_vatOf_15 rfl (by omega) (by decide) ?_
            refine pr_aload_n dX12_vatOf_98 rfl ?_
            refine pr_bipush dX12_vatOf_99 (by decide) ?_
            obtain ⟨q4, e5, h⟩ := pm_bs h
            refine pr_callV (As := [pv_i (-2)]) (S := []) (t := 0) dX12_vatOf_101 mk_X12_103 lm_0 (ci := 12) (q := (RX12, TX12, 36)) rfl rfl rfl rfl (Nat.le_of_ble_eq_true rfl) (by decide) (by decide) (Or.inl rfl) (tmX12_refuse e5) ?_
            have h := Option.some.inj h
            subst h
            exact pr_iret dX12_vatOf_104 rfl
  · have h := pm_pos c_3 h
    refine pr_aload_n dX12_vatOf_8 rfl ?_
    refine pr_iconst dX12_vatOf_9 ?_
    obtain ⟨q13, e14, h⟩ := pm_bs h
    refine pr_callV (As := [pv_i (-1)]) (S := []) (t := 0) dX12_vatOf_10 mk_X12_103 lm_0 (ci := 12) (q := (RX12, TX12, 36)) rfl rfl rfl rfl (Nat.le_of_ble_eq_true rfl) (by decide) (by decide) (Or.inl rfl) (tmX12_refuse e14) ?_
    have h := Option.some.inj h
    subst h
    exact pr_iret dX12_vatOf_13 rfl
def fX12_postOf (x1 : Int) (x2 : Int) (σ : pm_M) : Option (Int × pm_M) :=
  (fX12_isIn x1 (σ 25 (Int.toNat 752))).bind fun q1 => if (wr q1) = 0 then ((fX12_refuse (-1) σ).bind fun q11 => some (q11.1, q11.2)) else ((fX12_isIn x2 8).bind fun q4 => if (wr q4) = 0 then ((fX12_refuse (-2) σ).bind fun q7 => some (q7.1, q7.2)) else ((fX12_post x1 x2 σ).bind fun q9 => some (q9, σ)))
set_option maxHeartbeats 4000000 in
set_option maxRecDepth 100000 in
theorem tmX12_postOf {x1 : Int} {x2 : Int} {σ : pm_M} {ρ : Int × pm_M} (h : fX12_postOf x1 x2 σ = some ρ) : pm_C mX12_postOf 1 22 [pv_r 0, pv_i x1, pv_i x2] LAYM σ (some (pv_i ρ.1)) LAYM ρ.2 := by
  refine pm_C.of (by decide) rfl (Nat.le_of_ble_eq_true rfl) ?_
  show pm_J mX12_postOf 1 22 LAYM (some (pv_i ρ.1)) LAYM ρ.2 0 [some (pv_r 0), some (pv_i x1), some (pv_i x2)] [] LAYM σ
  unfold fX12_postOf at h
  refine pr_iload_n dX12_postOf_0 rfl ?_
  refine pr_aload_n dX12_postOf_1 rfl ?_
  refine pr_getR dX12_postOf_2 lk_X12_86 lm_0 rfl ?_
  refine pr_sipush dX12_postOf_5 (by decide) ?_
  refine pr_iald dX12_postOf_8 lm_25 (wr_eq (by decide) (by decide)) ⟨by decide, by decide⟩ ?_
  obtain ⟨q1, e2, h⟩ := pm_bs h
  refine pr_callS (av := [pv_i x1, pv_i (σ 25 (Int.toNat 752))]) (S := []) dX12_postOf_9 mk_X12_95 rfl rfl (Nat.le_of_ble_eq_true rfl) (by decide) (by decide) (Or.inl rfl) (tmX12_isIn e2) ?_
  refine pr_if_ne (tgt := 21) dX12_postOf_12 rfl (by decide) (fun c_3 => ?_) (fun c_3 => ?_)
  · have h := pm_ng c_3 h
    refine pr_iload_n dX12_postOf_21 rfl ?_
    refine pr_bipush dX12_postOf_22 (by decide) ?_
    obtain ⟨q4, e5, h⟩ := pm_bs h
    refine pr_callS (av := [pv_i x2, pv_i 8]) (S := []) dX12_postOf_24 mk_X12_95 rfl rfl (Nat.le_of_ble_eq_true rfl) (by decide) (by decide) (Or.inl rfl) (tmX12_isIn e5) ?_
    refine pr_if_eq (tgt := 39) dX12_postOf_27 rfl (by decide) (fun c_6 => ?_) (fun c_6 => ?_)
    · have h := pm_pos c_6 h
      refine pr_aload_n dX12_postOf_39 rfl ?_
      refine pr_bipush dX12_postOf_40 (by decide) ?_
      obtain ⟨q7, e8, h⟩ := pm_bs h
      refine pr_callV (As := [pv_i (-2)]) (S := []) (t := 0) dX12_postOf_42 mk_X12_103 lm_0 (ci := 12) (q := (RX12, TX12, 36)) rfl rfl rfl rfl (Nat.le_of_ble_eq_true rfl) (by decide) (by decide) (Or.inl rfl) (tmX12_refuse e8) ?_
      have h := Option.some.inj h
      subst h
      exact pr_iret dX12_postOf_45 rfl
    · have h := pm_ng c_6 h
      refine pr_aload_n dX12_postOf_30 rfl ?_
      refine pr_iload_n dX12_postOf_31 rfl ?_
      refine pr_iload_n dX12_postOf_32 rfl ?_
      obtain ⟨q9, e10, h⟩ := pm_bs h
      refine pr_callV (As := [pv_i x1, pv_i x2]) (S := []) (t := 0) dX12_postOf_33 mk_X12_138 lm_0 (ci := 12) (q := (RX12, TX12, 36)) rfl rfl rfl rfl (Nat.le_of_ble_eq_true rfl) (by decide) (by decide) (Or.inl rfl) (tmX12_post e10) ?_
      refine pr_goto (tgt := 45) dX12_postOf_36 (by decide) ?_
      have h := Option.some.inj h
      subst h
      exact pr_iret dX12_postOf_45 rfl
  · have h := pm_pos c_3 h
    refine pr_aload_n dX12_postOf_15 rfl ?_
    refine pr_iconst dX12_postOf_16 ?_
    obtain ⟨q11, e12, h⟩ := pm_bs h
    refine pr_callV (As := [pv_i (-1)]) (S := []) (t := 0) dX12_postOf_17 mk_X12_103 lm_0 (ci := 12) (q := (RX12, TX12, 36)) rfl rfl rfl rfl (Nat.le_of_ble_eq_true rfl) (by decide) (by decide) (Or.inl rfl) (tmX12_refuse e12) ?_
    have h := Option.some.inj h
    subst h
    exact pr_iret dX12_postOf_20 rfl
def fX12_orderOf (x1 : Int) (x2 : Int) (σ : pm_M) : Option (Int × pm_M) :=
  (fX12_isIn x1 (σ 0 17)).bind fun q1 => if (wr q1) = 0 then ((fX12_refuse (-1) σ).bind fun q13 => some (q13.1, q13.2)) else (if (wr x2) = 0 then (pm_g (0 ≤ (wr x1) ∧ (wr x1) < 12) (some ((σ 16 (Int.toNat (wr x1))), σ))) else (if (wr x2) = 1 then (pm_g (0 ≤ (wr x1) ∧ (wr x1) < 12) (some ((σ 17 (Int.toNat (wr x1))), σ))) else (if (wr x2) = 2 then (pm_g (0 ≤ (wr x1) ∧ (wr x1) < 12) (some ((σ 18 (Int.toNat (wr x1))), σ))) else (if (wr x2) = 3 then (pm_g (0 ≤ (wr x1) ∧ (wr x1) < 12) (some ((σ 19 (Int.toNat (wr x1))), σ))) else (if (wr x2) = 4 then (pm_g (0 ≤ (wr x1) ∧ (wr x1) < 12) (some ((σ 20 (Int.toNat (wr x1))), σ))) else (if (wr x2) = 5 then (pm_g (0 ≤ (wr x1) ∧ (wr x1) < 12) (some ((σ 21 (Int.toNat (wr x1))), σ))) else ((fX12_refuse (-2) σ).bind fun q4 => some (q4.1, q4.2))))))))
set_option maxHeartbeats 4000000 in
set_option maxRecDepth 100000 in
theorem tmX12_orderOf {x1 : Int} {x2 : Int} {σ : pm_M} {ρ : Int × pm_M} (h : fX12_orderOf x1 x2 σ = some ρ) : pm_C mX12_orderOf 1 21 [pv_r 0, pv_i x1, pv_i x2] LAYM σ (some (pv_i ρ.1)) LAYM ρ.2 := by
  refine pm_C.of (by decide) rfl (Nat.le_of_ble_eq_true rfl) ?_
  show pm_J mX12_orderOf 1 21 LAYM (some (pv_i ρ.1)) LAYM ρ.2 0 [some (pv_r 0), some (pv_i x1), some (pv_i x2)] [] LAYM σ
  unfold fX12_orderOf at h
  refine pr_iload_n dX12_orderOf_0 rfl ?_
  refine pr_aload_n dX12_orderOf_1 rfl ?_
  refine pr_getI dX12_orderOf_2 lk_X12_154 lm_0 rfl ?_
  obtain ⟨q1, e2, h⟩ := pm_bs h
  refine pr_callS (av := [pv_i x1, pv_i (σ 0 17)]) (S := []) dX12_orderOf_5 mk_X12_95 rfl rfl (Nat.le_of_ble_eq_true rfl) (by decide) (by decide) (Or.inl rfl) (tmX12_isIn e2) ?_
  refine pr_if_ne (tgt := 17) dX12_orderOf_8 rfl (by decide) (fun c_3 => ?_) (fun c_3 => ?_)
  · have h := pm_ng c_3 h
    refine pr_iload_n dX12_orderOf_17 rfl ?_
    by_cases c_6_0 : (wr x2) = 0
    · have h := pm_pos c_6_0 h
      refine pr_tsIn (j := 0) (tgt := 56) dX12_orderOf_18 rfl (c_6_0.trans (by decide)) (by decide) rfl (by decide) ?_
      refine pr_aload_n dX12_orderOf_56 rfl ?_
      refine pr_getR dX12_orderOf_57 lk_X12_59 lm_0 rfl ?_
      refine pr_iload_n dX12_orderOf_60 rfl ?_
      obtain ⟨g_12, h⟩ := pm_gs h
      refine pr_iald dX12_orderOf_61 lm_16 rfl g_12 ?_
      have h := Option.some.inj h
      subst h
      exact pr_iret dX12_orderOf_62 rfl
    · have h := pm_ng c_6_0 h
      by_cases c_6_1 : (wr x2) = 1
      · have h := pm_pos c_6_1 h
        refine pr_tsIn (j := 1) (tgt := 63) dX12_orderOf_18 rfl (c_6_1.trans (by decide)) (by decide) rfl (by decide) ?_
        refine pr_aload_n dX12_orderOf_63 rfl ?_
        refine pr_getR dX12_orderOf_64 lk_X12_62 lm_0 rfl ?_
        refine pr_iload_n dX12_orderOf_67 rfl ?_
        obtain ⟨g_11, h⟩ := pm_gs h
        refine pr_iald dX12_orderOf_68 lm_17 rfl g_11 ?_
        have h := Option.some.inj h
        subst h
        exact pr_iret dX12_orderOf_69 rfl
      · have h := pm_ng c_6_1 h
        by_cases c_6_2 : (wr x2) = 2
        · have h := pm_pos c_6_2 h
          refine pr_tsIn (j := 2) (tgt := 70) dX12_orderOf_18 rfl (c_6_2.trans (by decide)) (by decide) rfl (by decide) ?_
          refine pr_aload_n dX12_orderOf_70 rfl ?_
          refine pr_getR dX12_orderOf_71 lk_X12_65 lm_0 rfl ?_
          refine pr_iload_n dX12_orderOf_74 rfl ?_
          obtain ⟨g_10, h⟩ := pm_gs h
          refine pr_iald dX12_orderOf_75 lm_18 rfl g_10 ?_
          have h := Option.some.inj h
          subst h
          exact pr_iret dX12_orderOf_76 rfl
        · have h := pm_ng c_6_2 h
          by_cases c_6_3 : (wr x2) = 3
          · have h := pm_pos c_6_3 h
            refine pr_tsIn (j := 3) (tgt := 77) dX12_orderOf_18 rfl (c_6_3.trans (by decide)) (by decide) rfl (by decide) ?_
            refine pr_aload_n dX12_orderOf_77 rfl ?_
            refine pr_getR dX12_orderOf_78 lk_X12_68 lm_0 rfl ?_
            refine pr_iload_n dX12_orderOf_81 rfl ?_
            obtain ⟨g_9, h⟩ := pm_gs h
            refine pr_iald dX12_orderOf_82 lm_19 rfl g_9 ?_
            have h := Option.some.inj h
            subst h
            exact pr_iret dX12_orderOf_83 rfl
          · have h := pm_ng c_6_3 h
            by_cases c_6_4 : (wr x2) = 4
            · have h := pm_pos c_6_4 h
              refine pr_tsIn (j := 4) (tgt := 84) dX12_orderOf_18 rfl (c_6_4.trans (by decide)) (by decide) rfl (by decide) ?_
              refine pr_aload_n dX12_orderOf_84 rfl ?_
              refine pr_getR dX12_orderOf_85 lk_X12_71 lm_0 rfl ?_
              refine pr_iload_n dX12_orderOf_88 rfl ?_
              obtain ⟨g_8, h⟩ := pm_gs h
              refine pr_iald dX12_orderOf_89 lm_20 rfl g_8 ?_
              have h := Option.some.inj h
              subst h
              exact pr_iret dX12_orderOf_90 rfl
            · have h := pm_ng c_6_4 h
              by_cases c_6_5 : (wr x2) = 5
              · have h := pm_pos c_6_5 h
                refine pr_tsIn (j := 5) (tgt := 91) dX12_orderOf_18 rfl (c_6_5.trans (by decide)) (by decide) rfl (by decide) ?_
                refine pr_aload_n dX12_orderOf_91 rfl ?_
                refine pr_getR dX12_orderOf_92 lk_X12_74 lm_0 rfl ?_
                refine pr_iload_n dX12_orderOf_95 rfl ?_
                obtain ⟨g_7, h⟩ := pm_gs h
                refine pr_iald dX12_orderOf_96 lm_21 rfl g_7 ?_
                have h := Option.some.inj h
                subst h
                exact pr_iret dX12_orderOf_97 rfl
              · have h := pm_ng c_6_5 h
                refine pr_tsOut (tgt := 98) dX12_orderOf_18 rfl (by omega) (by decide) ?_
                refine pr_aload_n dX12_orderOf_98 rfl ?_
                refine pr_bipush dX12_orderOf_99 (by decide) ?_
                obtain ⟨q4, e5, h⟩ := pm_bs h
                refine pr_callV (As := [pv_i (-2)]) (S := []) (t := 0) dX12_orderOf_101 mk_X12_103 lm_0 (ci := 12) (q := (RX12, TX12, 36)) rfl rfl rfl rfl (Nat.le_of_ble_eq_true rfl) (by decide) (by decide) (Or.inl rfl) (tmX12_refuse e5) ?_
                have h := Option.some.inj h
                subst h
                exact pr_iret dX12_orderOf_104 rfl
  · have h := pm_pos c_3 h
    refine pr_aload_n dX12_orderOf_11 rfl ?_
    refine pr_iconst dX12_orderOf_12 ?_
    obtain ⟨q13, e14, h⟩ := pm_bs h
    refine pr_callV (As := [pv_i (-1)]) (S := []) (t := 0) dX12_orderOf_13 mk_X12_103 lm_0 (ci := 12) (q := (RX12, TX12, 36)) rfl rfl rfl rfl (Nat.le_of_ble_eq_true rfl) (by decide) (by decide) (Or.inl rfl) (tmX12_refuse e14) ?_
    have h := Option.some.inj h
    subst h
    exact pr_iret dX12_orderOf_16 rfl
def fX12_sheets (x1 : Int) (x2 : Int) (σ : pm_M) : Option (Int × pm_M) :=
  (fX12_isKind x1 σ).bind fun q1 => if (wr q1) = 0 then ((fX12_refuse (-1) σ).bind fun q4 => some (q4.1, q4.2)) else ((fX12_isWeight x2).bind fun q6 => if (wr q6) = 0 then ((fX12_refuse (-1) σ).bind fun q9 => some (q9.1, q9.2)) else (pm_g (0 ≤ (wr ((9 * x1) + x2)) ∧ (wr ((9 * x1) + x2)) < 81) (some ((σ 8 (Int.toNat (wr ((9 * x1) + x2)))), σ))))
set_option maxHeartbeats 4000000 in
set_option maxRecDepth 100000 in
theorem tmX12_sheets {x1 : Int} {x2 : Int} {σ : pm_M} {ρ : Int × pm_M} (h : fX12_sheets x1 x2 σ = some ρ) : pm_C mX12_sheets 2 42 [pv_r 0, pv_i x1, pv_i x2] LAYM σ (some (pv_i ρ.1)) LAYM ρ.2 := by
  refine pm_C.of (by decide) rfl (Nat.le_of_ble_eq_true rfl) ?_
  show pm_J mX12_sheets 2 42 LAYM (some (pv_i ρ.1)) LAYM ρ.2 0 [some (pv_r 0), some (pv_i x1), some (pv_i x2)] [] LAYM σ
  unfold fX12_sheets at h
  refine pr_aload_n dX12_sheets_0 rfl ?_
  refine pr_iload_n dX12_sheets_1 rfl ?_
  obtain ⟨q1, e2, h⟩ := pm_bs h
  refine pr_callV (As := [pv_i x1]) (S := []) (t := 0) dX12_sheets_2 mk_X12_111 lm_0 (ci := 12) (q := (RX12, TX12, 36)) rfl rfl rfl rfl (Nat.le_of_ble_eq_true rfl) (by decide) (by decide) (Or.inl rfl) (tmX12_isKind e2) ?_
  refine pr_if_eq (tgt := 29) dX12_sheets_5 rfl (by decide) (fun c_3 => ?_) (fun c_3 => ?_)
  · have h := pm_pos c_3 h
    refine pr_aload_n dX12_sheets_29 rfl ?_
    refine pr_iconst dX12_sheets_30 ?_
    obtain ⟨q4, e5, h⟩ := pm_bs h
    refine pr_callV (As := [pv_i (-1)]) (S := []) (t := 0) dX12_sheets_31 mk_X12_103 lm_0 (ci := 12) (q := (RX12, TX12, 36)) rfl rfl rfl rfl (Nat.le_of_ble_eq_true rfl) (by decide) (by decide) (Or.inl rfl) (tmX12_refuse e5) ?_
    have h := Option.some.inj h
    subst h
    exact pr_iret dX12_sheets_34 rfl
  · have h := pm_ng c_3 h
    refine pr_iload_n dX12_sheets_8 rfl ?_
    obtain ⟨q6, e7, h⟩ := pm_bs h
    refine pr_callS (av := [pv_i x2]) (S := []) dX12_sheets_9 mk_X12_151 rfl rfl (Nat.le_of_ble_eq_true rfl) (by decide) (by decide) (Or.inl rfl) (tmX12_isWeight e7) ?_
    refine pr_if_eq (tgt := 29) dX12_sheets_12 rfl (by decide) (fun c_8 => ?_) (fun c_8 => ?_)
    · have h := pm_pos c_8 h
      refine pr_aload_n dX12_sheets_29 rfl ?_
      refine pr_iconst dX12_sheets_30 ?_
      obtain ⟨q9, e10, h⟩ := pm_bs h
      refine pr_callV (As := [pv_i (-1)]) (S := []) (t := 0) dX12_sheets_31 mk_X12_103 lm_0 (ci := 12) (q := (RX12, TX12, 36)) rfl rfl rfl rfl (Nat.le_of_ble_eq_true rfl) (by decide) (by decide) (Or.inl rfl) (tmX12_refuse e10) ?_
      have h := Option.some.inj h
      subst h
      exact pr_iret dX12_sheets_34 rfl
    · have h := pm_ng c_8 h
      refine pr_aload_n dX12_sheets_15 rfl ?_
      refine pr_getR dX12_sheets_16 lk_X12_31 lm_0 rfl ?_
      refine pr_bipush dX12_sheets_19 (by decide) ?_
      refine pr_iload_n dX12_sheets_21 rfl ?_
      refine pr_imul dX12_sheets_22 ?_
      refine pr_iload_n dX12_sheets_23 rfl ?_
      refine pr_iadd dX12_sheets_24 ?_
      obtain ⟨g_11, h⟩ := pm_gs h
      refine pr_iald dX12_sheets_25 lm_8 rfl g_11 ?_
      refine pr_goto (tgt := 34) dX12_sheets_26 (by decide) ?_
      have h := Option.some.inj h
      subst h
      exact pr_iret dX12_sheets_34 rfl
def jnX12_count_22 (w1 : Int) (σ : pm_M) : Option (Int) :=
  (fX12_isKind (w1 - 20) σ).bind fun q2 => if (wr q2) = 0 then ((fX12_isKind (w1 - 30) σ).bind fun q5 => if (wr q5) = 0 then (if (wr w1) = 0 then (some (σ 25 (Int.toNat 751))) else (if (wr w1) = 1 then (some (σ 0 15)) else (if (wr w1) = 2 then (some (σ 0 16)) else (if (wr w1) = 3 then (some (σ 25 (Int.toNat 752))) else (if (wr w1) = 4 then (some (σ 0 17)) else (if (wr w1) = 5 then (some ((σ 0 18) + 1000000000)) else (if (wr w1) = 6 then (some (σ 0 19)) else (if (wr w1) = 7 then (some (σ 25 (Int.toNat 753))) else (if (wr w1) = 8 then (some (σ 25 (Int.toNat 754))) else (if (wr w1) = 9 then ((fX12_inState 1 σ).bind fun q9 => some q9) else (some (-9)))))))))))) else (pm_g (0 ≤ (wr ((96 + w1) - 30)) ∧ (wr ((96 + w1) - 30)) < 755) (some (σ 25 (Int.toNat (wr ((96 + w1) - 30))))))) else (pm_g (0 ≤ (wr (w1 - 20)) ∧ (wr (w1 - 20)) < 9) (some (σ 6 (Int.toNat (wr (w1 - 20))))))
set_option maxHeartbeats 4000000 in
set_option maxRecDepth 100000 in
theorem tjX12_count_22 {lay0 : List pm_S} {w1 : Int} {σ : pm_M} {ρ : Int} (h : jnX12_count_22 w1 σ = some ρ) : pm_J mX12_count 2 45 lay0 (some (pv_i ρ)) LAYM σ 22 [some (pv_r 0), some (pv_i w1)] [] LAYM σ := by
  unfold jnX12_count_22 at h
  refine pr_aload_n dX12_count_22 rfl ?_
  refine pr_iload_n dX12_count_23 rfl ?_
  refine pr_bipush dX12_count_24 (by decide) ?_
  refine pr_isub dX12_count_26 ?_
  obtain ⟨q2, e3, h⟩ := pm_bs h
  refine pr_callV (As := [pv_i (w1 - 20)]) (S := []) (t := 0) dX12_count_27 mk_X12_111 lm_0 (ci := 12) (q := (RX12, TX12, 36)) rfl rfl rfl rfl (Nat.le_of_ble_eq_true rfl) (by decide) (by decide) (Or.inl rfl) (tmX12_isKind e3) ?_
  refine pr_if_eq (tgt := 43) dX12_count_30 rfl (by decide) (fun c_4 => ?_) (fun c_4 => ?_)
  · have h := pm_pos c_4 h
    refine pr_aload_n dX12_count_43 rfl ?_
    refine pr_iload_n dX12_count_44 rfl ?_
    refine pr_bipush dX12_count_45 (by decide) ?_
    refine pr_isub dX12_count_47 ?_
    obtain ⟨q5, e6, h⟩ := pm_bs h
    refine pr_callV (As := [pv_i (w1 - 30)]) (S := []) (t := 0) dX12_count_48 mk_X12_111 lm_0 (ci := 12) (q := (RX12, TX12, 36)) rfl rfl rfl rfl (Nat.le_of_ble_eq_true rfl) (by decide) (by decide) (Or.inl rfl) (tmX12_isKind e6) ?_
    refine pr_if_eq (tgt := 67) dX12_count_51 rfl (by decide) (fun c_7 => ?_) (fun c_7 => ?_)
    · have h := pm_pos c_7 h
      refine pr_iload_n dX12_count_67 rfl ?_
      by_cases c_8_0 : (wr w1) = 0
      · have h := pm_pos c_8_0 h
        refine pr_tsIn (j := 0) (tgt := 124) dX12_count_68 rfl (c_8_0.trans (by decide)) (by decide) rfl (by decide) ?_
        refine pr_aload_n dX12_count_124 rfl ?_
        refine pr_getR dX12_count_125 lk_X12_86 lm_0 rfl ?_
        refine pr_sipush dX12_count_128 (by decide) ?_
        refine pr_iald dX12_count_131 lm_25 (wr_eq (by decide) (by decide)) ⟨by decide, by decide⟩ ?_
        have h := Option.some.inj h
        subst h
        exact pr_iret dX12_count_132 rfl
      · have h := pm_ng c_8_0 h
        by_cases c_8_1 : (wr w1) = 1
        · have h := pm_pos c_8_1 h
          refine pr_tsIn (j := 1) (tgt := 133) dX12_count_68 rfl (c_8_1.trans (by decide)) (by decide) rfl (by decide) ?_
          refine pr_aload_n dX12_count_133 rfl ?_
          refine pr_getI dX12_count_134 lk_X12_115 lm_0 rfl ?_
          have h := Option.some.inj h
          subst h
          exact pr_iret dX12_count_137 rfl
        · have h := pm_ng c_8_1 h
          by_cases c_8_2 : (wr w1) = 2
          · have h := pm_pos c_8_2 h
            refine pr_tsIn (j := 2) (tgt := 138) dX12_count_68 rfl (c_8_2.trans (by decide)) (by decide) rfl (by decide) ?_
            refine pr_aload_n dX12_count_138 rfl ?_
            refine pr_getI dX12_count_139 lk_X12_129 lm_0 rfl ?_
            have h := Option.some.inj h
            subst h
            exact pr_iret dX12_count_142 rfl
          · have h := pm_ng c_8_2 h
            by_cases c_8_3 : (wr w1) = 3
            · have h := pm_pos c_8_3 h
              refine pr_tsIn (j := 3) (tgt := 143) dX12_count_68 rfl (c_8_3.trans (by decide)) (by decide) rfl (by decide) ?_
              refine pr_aload_n dX12_count_143 rfl ?_
              refine pr_getR dX12_count_144 lk_X12_86 lm_0 rfl ?_
              refine pr_sipush dX12_count_147 (by decide) ?_
              refine pr_iald dX12_count_150 lm_25 (wr_eq (by decide) (by decide)) ⟨by decide, by decide⟩ ?_
              have h := Option.some.inj h
              subst h
              exact pr_iret dX12_count_151 rfl
            · have h := pm_ng c_8_3 h
              by_cases c_8_4 : (wr w1) = 4
              · have h := pm_pos c_8_4 h
                refine pr_tsIn (j := 4) (tgt := 152) dX12_count_68 rfl (c_8_4.trans (by decide)) (by decide) rfl (by decide) ?_
                refine pr_aload_n dX12_count_152 rfl ?_
                refine pr_getI dX12_count_153 lk_X12_154 lm_0 rfl ?_
                have h := Option.some.inj h
                subst h
                exact pr_iret dX12_count_156 rfl
              · have h := pm_ng c_8_4 h
                by_cases c_8_5 : (wr w1) = 5
                · have h := pm_pos c_8_5 h
                  refine pr_tsIn (j := 5) (tgt := 157) dX12_count_68 rfl (c_8_5.trans (by decide)) (by decide) rfl (by decide) ?_
                  refine pr_aload_n dX12_count_157 rfl ?_
                  refine pr_getI dX12_count_158 lk_X12_162 lm_0 rfl ?_
                  refine pr_ldc dX12_count_161 lkc_X12_157 ?_
                  refine pr_iadd dX12_count_163 ?_
                  have h := Option.some.inj h
                  subst h
                  exact pr_iret dX12_count_164 rfl
                · have h := pm_ng c_8_5 h
                  by_cases c_8_6 : (wr w1) = 6
                  · have h := pm_pos c_8_6 h
                    refine pr_tsIn (j := 6) (tgt := 165) dX12_count_68 rfl (c_8_6.trans (by decide)) (by decide) rfl (by decide) ?_
                    refine pr_aload_n dX12_count_165 rfl ?_
                    refine pr_getI dX12_count_166 lk_X12_135 lm_0 rfl ?_
                    have h := Option.some.inj h
                    subst h
                    exact pr_iret dX12_count_169 rfl
                  · have h := pm_ng c_8_6 h
                    by_cases c_8_7 : (wr w1) = 7
                    · have h := pm_pos c_8_7 h
                      refine pr_tsIn (j := 7) (tgt := 170) dX12_count_68 rfl (c_8_7.trans (by decide)) (by decide) rfl (by decide) ?_
                      refine pr_aload_n dX12_count_170 rfl ?_
                      refine pr_getR dX12_count_171 lk_X12_86 lm_0 rfl ?_
                      refine pr_sipush dX12_count_174 (by decide) ?_
                      refine pr_iald dX12_count_177 lm_25 (wr_eq (by decide) (by decide)) ⟨by decide, by decide⟩ ?_
                      have h := Option.some.inj h
                      subst h
                      exact pr_iret dX12_count_178 rfl
                    · have h := pm_ng c_8_7 h
                      by_cases c_8_8 : (wr w1) = 8
                      · have h := pm_pos c_8_8 h
                        refine pr_tsIn (j := 8) (tgt := 179) dX12_count_68 rfl (c_8_8.trans (by decide)) (by decide) rfl (by decide) ?_
                        refine pr_aload_n dX12_count_179 rfl ?_
                        refine pr_getR dX12_count_180 lk_X12_86 lm_0 rfl ?_
                        refine pr_sipush dX12_count_183 (by decide) ?_
                        refine pr_iald dX12_count_186 lm_25 (wr_eq (by decide) (by decide)) ⟨by decide, by decide⟩ ?_
                        have h := Option.some.inj h
                        subst h
                        exact pr_iret dX12_count_187 rfl
                      · have h := pm_ng c_8_8 h
                        by_cases c_8_9 : (wr w1) = 9
                        · have h := pm_pos c_8_9 h
                          refine pr_tsIn (j := 9) (tgt := 188) dX12_count_68 rfl (c_8_9.trans (by decide)) (by decide) rfl (by decide) ?_
                          refine pr_aload_n dX12_count_188 rfl ?_
                          refine pr_iconst dX12_count_189 ?_
                          obtain ⟨q9, e10, h⟩ := pm_bs h
                          refine pr_callV (As := [pv_i 1]) (S := []) (t := 0) dX12_count_190 mk_X12_193 lm_0 (ci := 12) (q := (RX12, TX12, 36)) rfl rfl rfl rfl (Nat.le_of_ble_eq_true rfl) (by decide) (by decide) (Or.inl rfl) (tmX12_inState e10) ?_
                          have h := Option.some.inj h
                          subst h
                          exact pr_iret dX12_count_193 rfl
                        · have h := pm_ng c_8_9 h
                          refine pr_tsOut (tgt := 194) dX12_count_68 rfl (by omega) (by decide) ?_
                          refine pr_bipush dX12_count_194 (by decide) ?_
                          have h := Option.some.inj h
                          subst h
                          exact pr_iret dX12_count_196 rfl
    · have h := pm_ng c_7 h
      refine pr_aload_n dX12_count_54 rfl ?_
      refine pr_getR dX12_count_55 lk_X12_86 lm_0 rfl ?_
      refine pr_bipush dX12_count_58 (by decide) ?_
      refine pr_iload_n dX12_count_60 rfl ?_
      refine pr_iadd dX12_count_61 ?_
      refine pr_bipush dX12_count_62 (by decide) ?_
      refine pr_isub dX12_count_64 ?_
      obtain ⟨g_11, h⟩ := pm_gs h
      refine pr_iald dX12_count_65 lm_25 rfl g_11 ?_
      have h := Option.some.inj h
      subst h
      exact pr_iret dX12_count_66 rfl
  · have h := pm_ng c_4 h
    refine pr_aload_n dX12_count_33 rfl ?_
    refine pr_getR dX12_count_34 lk_X12_25 lm_0 rfl ?_
    refine pr_iload_n dX12_count_37 rfl ?_
    refine pr_bipush dX12_count_38 (by decide) ?_
    refine pr_isub dX12_count_40 ?_
    obtain ⟨g_12, h⟩ := pm_gs h
    refine pr_iald dX12_count_41 lm_6 rfl g_12 ?_
    have h := Option.some.inj h
    subst h
    exact pr_iret dX12_count_42 rfl
def fX12_count (x1 : Int) (σ : pm_M) : Option (Int) :=
  if (wr x1) ≤ 10 then (jnX12_count_22 x1 σ) else (if 17 ≤ (wr x1) then (jnX12_count_22 x1 σ) else (pm_g (0 ≤ (wr (x1 - 10)) ∧ (wr (x1 - 10)) < 7) (some (σ 1 (Int.toNat (wr (x1 - 10)))))))
set_option maxHeartbeats 4000000 in
set_option maxRecDepth 100000 in
theorem tmX12_count {x1 : Int} {σ : pm_M} {ρ : Int} (h : fX12_count x1 σ = some ρ) : pm_C mX12_count 2 45 [pv_r 0, pv_i x1] LAYM σ (some (pv_i ρ)) LAYM σ := by
  refine pm_C.of (by decide) rfl (Nat.le_of_ble_eq_true rfl) ?_
  show pm_J mX12_count 2 45 LAYM (some (pv_i ρ)) LAYM σ 0 [some (pv_r 0), some (pv_i x1)] [] LAYM σ
  unfold fX12_count at h
  refine pr_iload_n dX12_count_0 rfl ?_
  refine pr_bipush dX12_count_1 (by decide) ?_
  refine pr_icmp_le (tgt := 22) dX12_count_3 rfl (wr_eq (by decide) (by decide)) (by decide) (fun c_1 => ?_) (fun c_1 => ?_)
  · have h := pm_pos c_1 h
    refine pr_weak (L2 := [some (pv_r 0), some (pv_i x1)]) ⟨Or.inr rfl, Or.inr rfl, trivial⟩ ?_
    exact tjX12_count_22 h
  · have h := pm_ng c_1 h
    refine pr_iload_n dX12_count_6 rfl ?_
    refine pr_bipush dX12_count_7 (by decide) ?_
    refine pr_icmp_ge (tgt := 22) dX12_count_9 rfl (wr_eq (by decide) (by decide)) (by decide) (fun c_13 => ?_) (fun c_13 => ?_)
    · have h := pm_pos c_13 h
      refine pr_weak (L2 := [some (pv_r 0), some (pv_i x1)]) ⟨Or.inr rfl, Or.inr rfl, trivial⟩ ?_
      exact tjX12_count_22 h
    · have h := pm_ng c_13 h
      refine pr_aload_n dX12_count_12 rfl ?_
      refine pr_getR dX12_count_13 lk_X12_7 lm_0 rfl ?_
      refine pr_iload_n dX12_count_16 rfl ?_
      refine pr_bipush dX12_count_17 (by decide) ?_
      refine pr_isub dX12_count_19 ?_
      obtain ⟨g_14, h⟩ := pm_gs h
      refine pr_iald dX12_count_20 lm_1 rfl g_14 ?_
      have h := Option.some.inj h
      subst h
      exact pr_iret dX12_count_21 rfl
