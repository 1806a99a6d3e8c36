def fX11_order (x1 : Int) (x2 : Int) (x3 : Int) (x4 : Int) (x5 : Int) (σ : pm_M) : Option (Int × pm_M) :=
  (fX11_isNumber x1 9).bind fun q1 => if (wr q1) = 0 then ((fX11_refuse (-1) σ).bind fun q4 => some (q4.1, q4.2)) else ((fX11_isWeight x2).bind fun q6 => if (wr q6) = 0 then ((fX11_refuse (-1) σ).bind fun q32 => some (q32.1, q32.2)) else (if (wr x3) < 1 then ((fX11_refuse (-4) σ).bind fun q10 => some (q10.1, q10.2)) else (if (wr x4) < 0 then ((fX11_refuse (-4) σ).bind fun q13 => some (q13.1, q13.2)) else (if 0 ≤ (wr x5) then (if 20 < (wr x3) then ((fX11_refuse (-6) σ).bind fun q17 => some (q17.1, q17.2)) else (if 101 ≤ (wr x4) then ((fX11_refuse (-6) σ).bind fun q20 => some (q20.1, q20.2)) else (if (wr x5) ≤ 999 then (if (wr (σ 81 6)) = 12 then ((fX11_refuse (-6) σ).bind fun q26 => some (q26.1, q26.2)) else ((fX5_take x1 x2 x3 x4 x5 σ).bind fun q24 => some (q24.1, q24.2))) else ((fX11_refuse (-6) σ).bind fun q28 => some (q28.1, q28.2))))) else ((fX11_refuse (-4) σ).bind fun q30 => some (q30.1, q30.2))))))
set_option maxHeartbeats 4000000 in
set_option maxRecDepth 100000 in
theorem tmX11_order {x1 : Int} {x2 : Int} {x3 : Int} {x4 : Int} {x5 : Int} {σ : pm_M} {ρ : Int × pm_M} (h : fX11_order x1 x2 x3 x4 x5 σ = some ρ) : pm_C mX11_order 1 25 [pv_r 0, pv_i x1, pv_i x2, pv_i x3, pv_i x4, pv_i x5] LAYC σ (some (pv_i ρ.1)) LAYC ρ.2 := by
  refine pm_C.of (by decide) rfl (Nat.le_of_ble_eq_true rfl) ?_
  show pm_J mX11_order 1 25 LAYC (some (pv_i ρ.1)) LAYC ρ.2 0 [some (pv_r 0), some (pv_i x1), some (pv_i x2), some (pv_i x3), some (pv_i x4), some (pv_i x5)] [] LAYC σ
  unfold fX11_order at h
  refine pr_iload_n dX11_order_0 rfl ?_
  refine pr_bipush dX11_order_1 (by decide) ?_
  obtain ⟨q1, e2, h⟩ := pm_bs h
  refine pr_callS (av := [pv_i x1, pv_i 9]) (S := []) dX11_order_3 mk_X11_65 rfl rfl (Nat.le_of_ble_eq_true rfl) (by decide) (by decide) (Or.inl rfl) (tmX11_isNumber e2) ?_
  refine pr_if_eq (tgt := 16) dX11_order_6 rfl (by decide) (fun c_3 => ?_) (fun c_3 => ?_)
  · have h := pm_pos c_3 h
    refine pr_aload_n dX11_order_16 rfl ?_
    refine pr_iconst dX11_order_17 ?_
    obtain ⟨q4, e5, h⟩ := pm_bs h
    refine pr_callV (As := [pv_i (-1)]) (S := []) (t := 0) dX11_order_18 mk_X11_69 lc_0 (ci := 11) (q := (RX11, TX11, 11)) rfl rfl rfl rfl (Nat.le_of_ble_eq_true rfl) (by decide) (by decide) (Or.inl rfl) (tmX11_refuse e5) ?_
    have h := Option.some.inj h
    subst h
    exact pr_iret dX11_order_21 rfl
  · have h := pm_ng c_3 h
    refine pr_iload_n dX11_order_9 rfl ?_
    obtain ⟨q6, e7, h⟩ := pm_bs h
    refine pr_callS (av := [pv_i x2]) (S := []) dX11_order_10 mk_X11_139 rfl rfl (Nat.le_of_ble_eq_true rfl) (by decide) (by decide) (Or.inl rfl) (tmX11_isWeight e7) ?_
    refine pr_if_ne (tgt := 22) dX11_order_13 rfl (by decide) (fun c_8 => ?_) (fun c_8 => ?_)
    · have h := pm_ng c_8 h
      refine pr_iload_n dX11_order_22 rfl ?_
      refine pr_iconst dX11_order_23 ?_
      refine pr_icmp_lt (tgt := 37) dX11_order_24 rfl (wr_eq (by decide) (by decide)) (by decide) (fun c_9 => ?_) (fun c_9 => ?_)
      · have h := pm_pos c_9 h
        refine pr_aload_n dX11_order_37 rfl ?_
        refine pr_bipush dX11_order_38 (by decide) ?_
        obtain ⟨q10, e11, h⟩ := pm_bs h
        refine pr_callV (As := [pv_i (-4)]) (S := []) (t := 0) dX11_order_40 mk_X11_69 lc_0 (ci := 11) (q := (RX11, TX11, 11)) rfl rfl rfl rfl (Nat.le_of_ble_eq_true rfl) (by decide) (by decide) (Or.inl rfl) (tmX11_refuse e11) ?_
        have h := Option.some.inj h
        subst h
        exact pr_iret dX11_order_43 rfl
      · have h := pm_ng c_9 h
        refine pr_iload dX11_order_27 rfl ?_
        refine pr_if_lt (tgt := 37) dX11_order_29 rfl (by decide) (fun c_12 => ?_) (fun c_12 => ?_)
        · have h := pm_pos c_12 h
          refine pr_aload_n dX11_order_37 rfl ?_
          refine pr_bipush dX11_order_38 (by decide) ?_
          obtain ⟨q13, e14, h⟩ := pm_bs h
          refine pr_callV (As := [pv_i (-4)]) (S := []) (t := 0) dX11_order_40 mk_X11_69 lc_0 (ci := 11) (q := (RX11, TX11, 11)) rfl rfl rfl rfl (Nat.le_of_ble_eq_true rfl) (by decide) (by decide) (Or.inl rfl) (tmX11_refuse e14) ?_
          have h := Option.some.inj h
          subst h
          exact pr_iret dX11_order_43 rfl
        · have h := pm_ng c_12 h
          refine pr_iload dX11_order_32 rfl ?_
          refine pr_if_ge (tgt := 44) dX11_order_34 rfl (by decide) (fun c_15 => ?_) (fun c_15 => ?_)
          · have h := pm_pos c_15 h
            refine pr_iload_n dX11_order_44 rfl ?_
            refine pr_bipush dX11_order_45 (by decide) ?_
            refine pr_icmp_gt (tgt := 65) dX11_order_47 rfl (wr_eq (by decide) (by decide)) (by decide) (fun c_16 => ?_) (fun c_16 => ?_)
            · have h := pm_pos c_16 h
              refine pr_aload_n dX11_order_65 rfl ?_
              refine pr_bipush dX11_order_66 (by decide) ?_
              obtain ⟨q17, e18, h⟩ := pm_bs h
              refine pr_callV (As := [pv_i (-6)]) (S := []) (t := 0) dX11_order_68 mk_X11_69 lc_0 (ci := 11) (q := (RX11, TX11, 11)) rfl rfl rfl rfl (Nat.le_of_ble_eq_true rfl) (by decide) (by decide) (Or.inl rfl) (tmX11_refuse e18) ?_
              have h := Option.some.inj h
              subst h
              exact pr_iret dX11_order_71 rfl
            · have h := pm_ng c_16 h
              refine pr_iload dX11_order_50 rfl ?_
              refine pr_bipush dX11_order_52 (by decide) ?_
              refine pr_icmp_ge (tgt := 65) dX11_order_54 rfl (wr_eq (by decide) (by decide)) (by decide) (fun c_19 => ?_) (fun c_19 => ?_)
              · have h := pm_pos c_19 h
                refine pr_aload_n dX11_order_65 rfl ?_
                refine pr_bipush dX11_order_66 (by decide) ?_
                obtain ⟨q20, e21, h⟩ := pm_bs h
                refine pr_callV (As := [pv_i (-6)]) (S := []) (t := 0) dX11_order_68 mk_X11_69 lc_0 (ci := 11) (q := (RX11, TX11, 11)) rfl rfl rfl rfl (Nat.le_of_ble_eq_true rfl) (by decide) (by decide) (Or.inl rfl) (tmX11_refuse e21) ?_
                have h := Option.some.inj h
                subst h
                exact pr_iret dX11_order_71 rfl
              · have h := pm_ng c_19 h
                refine pr_iload dX11_order_57 rfl ?_
                refine pr_sipush dX11_order_59 (by decide) ?_
                refine pr_icmp_le (tgt := 72) dX11_order_62 rfl (wr_eq (by decide) (by decide)) (by decide) (fun c_22 => ?_) (fun c_22 => ?_)
                · have h := pm_pos c_22 h
                  refine pr_aload_n dX11_order_72 rfl ?_
                  refine pr_getR dX11_order_73 lk_X11_38 lc_0 rfl ?_
                  refine pr_getI dX11_order_76 lk_X11_205 lc_81 rfl ?_
                  refine pr_bipush dX11_order_79 (by decide) ?_
                  refine pr_icmp_ne (tgt := 91) dX11_order_81 rfl (wr_eq (by decide) (by decide)) (by decide) (fun c_23 => ?_) (fun c_23 => ?_)
                  · have h := pm_ng c_23 h
                    refine pr_aload_n dX11_order_91 rfl ?_
                    refine pr_getR dX11_order_92 lk_X11_38 lc_0 rfl ?_
                    refine pr_iload_n dX11_order_95 rfl ?_
                    refine pr_iload_n dX11_order_96 rfl ?_
                    refine pr_iload_n dX11_order_97 rfl ?_
                    refine pr_iload dX11_order_98 rfl ?_
                    refine pr_iload dX11_order_100 rfl ?_
                    obtain ⟨q24, e25, h⟩ := pm_bs h
                    refine pr_callV (As := [pv_i x1, pv_i x2, pv_i x3, pv_i x4, pv_i x5]) (S := []) (t := 81) dX11_order_102 mk_X11_208 lc_81 (ci := 5) (q := (RX5, TX5, 10)) rfl rfl rfl rfl (Nat.le_of_ble_eq_true rfl) (by decide) (by decide) (Or.inl rfl) (tmX5_take e25) ?_
                    have h := Option.some.inj h
                    subst h
                    exact pr_iret dX11_order_105 rfl
                  · have h := pm_pos c_23 h
                    refine pr_aload_n dX11_order_84 rfl ?_
                    refine pr_bipush dX11_order_85 (by decide) ?_
                    obtain ⟨q26, e27, h⟩ := pm_bs h
                    refine pr_callV (As := [pv_i (-6)]) (S := []) (t := 0) dX11_order_87 mk_X11_69 lc_0 (ci := 11) (q := (RX11, TX11, 11)) rfl rfl rfl rfl (Nat.le_of_ble_eq_true rfl) (by decide) (by decide) (Or.inl rfl) (tmX11_refuse e27) ?_
                    have h := Option.some.inj h
                    subst h
                    exact pr_iret dX11_order_90 rfl
                · have h := pm_ng c_22 h
                  refine pr_aload_n dX11_order_65 rfl ?_
                  refine pr_bipush dX11_order_66 (by decide) ?_
                  obtain ⟨q28, e29, h⟩ := pm_bs h
                  refine pr_callV (As := [pv_i (-6)]) (S := []) (t := 0) dX11_order_68 mk_X11_69 lc_0 (ci := 11) (q := (RX11, TX11, 11)) rfl rfl rfl rfl (Nat.le_of_ble_eq_true rfl) (by decide) (by decide) (Or.inl rfl) (tmX11_refuse e29) ?_
                  have h := Option.some.inj h
                  subst h
                  exact pr_iret dX11_order_71 rfl
          · have h := pm_ng c_15 h
            refine pr_aload_n dX11_order_37 rfl ?_
            refine pr_bipush dX11_order_38 (by decide) ?_
            obtain ⟨q30, e31, h⟩ := pm_bs h
            refine pr_callV (As := [pv_i (-4)]) (S := []) (t := 0) dX11_order_40 mk_X11_69 lc_0 (ci := 11) (q := (RX11, TX11, 11)) rfl rfl rfl rfl (Nat.le_of_ble_eq_true rfl) (by decide) (by decide) (Or.inl rfl) (tmX11_refuse e31) ?_
            have h := Option.some.inj h
            subst h
            exact pr_iret dX11_order_43 rfl
    · have h := pm_pos c_8 h
      refine pr_aload_n dX11_order_16 rfl ?_
      refine pr_iconst dX11_order_17 ?_
      obtain ⟨q32, e33, h⟩ := pm_bs h
      refine pr_callV (As := [pv_i (-1)]) (S := []) (t := 0) dX11_order_18 mk_X11_69 lc_0 (ci := 11) (q := (RX11, TX11, 11)) rfl rfl rfl rfl (Nat.le_of_ble_eq_true rfl) (by decide) (by decide) (Or.inl rfl) (tmX11_refuse e33) ?_
      have h := Option.some.inj h
      subst h
      exact pr_iret dX11_order_21 rfl
def fX11_fill (x1 : Int) (σ : pm_M) : Option (Int × pm_M) :=
  (fX11_isNumber x1 (σ 81 6)).bind fun q1 => if (wr q1) = 0 then ((fX11_refuse (-1) σ).bind fun q27 => some ((1000000000 - q27.1), q27.2)) else (pm_g (0 ≤ (wr x1) ∧ (wr x1) < 12) (pm_g (0 ≤ (wr x1) ∧ (wr x1) < 12) ((fX11_shelfOf (σ 82 (Int.toNat (wr x1))) (σ 83 (Int.toNat (wr x1)))).bind fun q6 => pm_g (0 ≤ (wr x1) ∧ (wr x1) < 12) ((fX5_isOpen x1 σ).bind fun q9 => if (wr q9) = 0 then ((fX11_refuse (-3) σ).bind fun q12 => some ((1000000000 - q12.1), q12.2)) else (pm_g (0 ≤ (wr q6) ∧ (wr q6) < 81) (if (wr ((σ 84 (Int.toNat (wr x1))) * 480)) ≤ (wr (σ 92 (Int.toNat (wr q6)))) then (pm_g (0 ≤ (wr q6) ∧ (wr q6) < 81) (pm_g (0 ≤ (wr q6) ∧ (wr q6) < 81) (pm_g (0 ≤ (wr x1) ∧ (wr x1) < 12) ((fX10_today 15 (pm_up (pm_up σ 92 (Int.toNat (wr q6)) ((σ 92 (Int.toNat (wr q6))) - ((σ 84 (Int.toNat (wr x1))) * 480))) 87 (Int.toNat (wr x1)) ((pm_up σ 92 (Int.toNat (wr q6)) ((σ 92 (Int.toNat (wr q6))) - ((σ 84 (Int.toNat (wr x1))) * 480))) 15 7))).bind fun q19 => pm_g (0 ≤ (wr x1) ∧ (wr x1) < 12) (pm_g (0 ≤ (wr ((pm_up (pm_up σ 92 (Int.toNat (wr q6)) ((σ 92 (Int.toNat (wr q6))) - ((σ 84 (Int.toNat (wr x1))) * 480))) 87 (Int.toNat (wr x1)) ((pm_up σ 92 (Int.toNat (wr q6)) ((σ 92 (Int.toNat (wr q6))) - ((σ 84 (Int.toNat (wr x1))) * 480))) 15 7)) 83 (Int.toNat (wr x1)))) ∧ (wr ((pm_up (pm_up σ 92 (Int.toNat (wr q6)) ((σ 92 (Int.toNat (wr q6))) - ((σ 84 (Int.toNat (wr x1))) * 480))) 87 (Int.toNat (wr x1)) ((pm_up σ 92 (Int.toNat (wr q6)) ((σ 92 (Int.toNat (wr q6))) - ((σ 84 (Int.toNat (wr x1))) * 480))) 15 7)) 83 (Int.toNat (wr x1)))) < 9) ((fX5_coinsFor x1 q19 ((pm_up (pm_up σ 92 (Int.toNat (wr q6)) ((σ 92 (Int.toNat (wr q6))) - ((σ 84 (Int.toNat (wr x1))) * 480))) 87 (Int.toNat (wr x1)) ((pm_up σ 92 (Int.toNat (wr q6)) ((σ 92 (Int.toNat (wr q6))) - ((σ 84 (Int.toNat (wr x1))) * 480))) 15 7)) 91 (Int.toNat (wr ((pm_up (pm_up σ 92 (Int.toNat (wr q6)) ((σ 92 (Int.toNat (wr q6))) - ((σ 84 (Int.toNat (wr x1))) * 480))) 87 (Int.toNat (wr x1)) ((pm_up σ 92 (Int.toNat (wr q6)) ((σ 92 (Int.toNat (wr q6))) - ((σ 84 (Int.toNat (wr x1))) * 480))) 15 7)) 83 (Int.toNat (wr x1)))))) (pm_up (pm_up σ 92 (Int.toNat (wr q6)) ((σ 92 (Int.toNat (wr q6))) - ((σ 84 (Int.toNat (wr x1))) * 480))) 87 (Int.toNat (wr x1)) ((pm_up σ 92 (Int.toNat (wr q6)) ((σ 92 (Int.toNat (wr q6))) - ((σ 84 (Int.toNat (wr x1))) * 480))) 15 7))).bind fun q23 => some (q23, (pm_up (pm_up (pm_up σ 92 (Int.toNat (wr q6)) ((σ 92 (Int.toNat (wr q6))) - ((σ 84 (Int.toNat (wr x1))) * 480))) 87 (Int.toNat (wr x1)) ((pm_up σ 92 (Int.toNat (wr q6)) ((σ 92 (Int.toNat (wr q6))) - ((σ 84 (Int.toNat (wr x1))) * 480))) 15 7)) 0 10 (((pm_up (pm_up σ 92 (Int.toNat (wr q6)) ((σ 92 (Int.toNat (wr q6))) - ((σ 84 (Int.toNat (wr x1))) * 480))) 87 (Int.toNat (wr x1)) ((pm_up σ 92 (Int.toNat (wr q6)) ((σ 92 (Int.toNat (wr q6))) - ((σ 84 (Int.toNat (wr x1))) * 480))) 15 7)) 0 10) + q23))))))))) else ((fX11_refuse (-3) σ).bind fun q25 => some ((1000000000 - q25.1), q25.2))))))))
set_option maxHeartbeats 4000000 in
set_option maxRecDepth 100000 in
theorem tmX11_fill {x1 : Int} {σ : pm_M} {ρ : Int × pm_M} (h : fX11_fill x1 σ = some ρ) : pm_C mX11_fill 1 24 [pv_r 0, pv_i x1] LAYC σ (some (pv_i ρ.1)) LAYC ρ.2 := by
  refine pm_C.of (by decide) rfl (Nat.le_of_ble_eq_true rfl) ?_
  show pm_J mX11_fill 1 24 LAYC (some (pv_i ρ.1)) LAYC ρ.2 0 [some (pv_r 0), some (pv_i x1), none, none, none] [] LAYC σ
  unfold fX11_fill at h
  refine pr_iload_n dX11_fill_0 rfl ?_
  refine pr_aload_n dX11_fill_1 rfl ?_
  refine pr_getR dX11_fill_2 lk_X11_38 lc_0 rfl ?_
  refine pr_getI dX11_fill_5 lk_X11_205 lc_81 rfl ?_
  obtain ⟨q1, e2, h⟩ := pm_bs h
  refine pr_callS (av := [pv_i x1, pv_i (σ 81 6)]) (S := []) dX11_fill_8 mk_X11_65 rfl rfl (Nat.le_of_ble_eq_true rfl) (by decide) (by decide) (Or.inl rfl) (tmX11_isNumber e2) ?_
  refine pr_if_ne (tgt := 23) dX11_fill_11 rfl (by decide) (fun c_3 => ?_) (fun c_3 => ?_)
  · have h := pm_ng c_3 h
    refine pr_aload_n dX11_fill_23 rfl ?_
    refine pr_getR dX11_fill_24 lk_X11_38 lc_0 rfl ?_
    refine pr_getR dX11_fill_27 lk_X11_212 lc_81 rfl ?_
    refine pr_iload_n dX11_fill_30 rfl ?_
    obtain ⟨g_4, h⟩ := pm_gs h
    refine pr_iald dX11_fill_31 lc_82 rfl g_4 ?_
    refine pr_aload_n dX11_fill_32 rfl ?_
    refine pr_getR dX11_fill_33 lk_X11_38 lc_0 rfl ?_
    refine pr_getR dX11_fill_36 lk_X11_213 lc_81 rfl ?_
    refine pr_iload_n dX11_fill_39 rfl ?_
    obtain ⟨g_5, h⟩ := pm_gs h
    refine pr_iald dX11_fill_40 lc_83 rfl g_5 ?_
    obtain ⟨q6, e7, h⟩ := pm_bs h
    refine pr_callS (av := [pv_i (σ 82 (Int.toNat (wr x1))), pv_i (σ 83 (Int.toNat (wr x1)))]) (S := []) dX11_fill_41 mk_X11_216 rfl rfl (Nat.le_of_ble_eq_true rfl) (by decide) (by decide) (Or.inl rfl) (tmX11_shelfOf e7) ?_
    refine pr_istore_n dX11_fill_44 (by decide) rfl ?_
    refine pr_aload_n dX11_fill_45 rfl ?_
    refine pr_getR dX11_fill_46 lk_X11_38 lc_0 rfl ?_
    refine pr_getR dX11_fill_49 lk_X11_219 lc_81 rfl ?_
    refine pr_iload_n dX11_fill_52 rfl ?_
    obtain ⟨g_8, h⟩ := pm_gs h
    refine pr_iald dX11_fill_53 lc_84 rfl g_8 ?_
    refine pr_sipush dX11_fill_54 (by decide) ?_
    refine pr_imul dX11_fill_57 ?_
    refine pr_istore_n dX11_fill_58 (by decide) rfl ?_
    refine pr_aload_n dX11_fill_59 rfl ?_
    refine pr_getR dX11_fill_60 lk_X11_38 lc_0 rfl ?_
    refine pr_iload_n dX11_fill_63 rfl ?_
    obtain ⟨q9, e10, h⟩ := pm_bs h
    refine pr_callV (As := [pv_i x1]) (S := []) (t := 81) dX11_fill_64 mk_X11_222 lc_81 (ci := 5) (q := (RX5, TX5, 10)) rfl rfl rfl rfl (Nat.le_of_ble_eq_true rfl) (by decide) (by decide) (Or.inl rfl) (tmX5_isOpen e10) ?_
    refine pr_if_eq (tgt := 80) dX11_fill_67 rfl (by decide) (fun c_11 => ?_) (fun c_11 => ?_)
    · have h := pm_pos c_11 h
      refine pr_ldc dX11_fill_80 lkc_X11_211 ?_
      refine pr_aload_n dX11_fill_82 rfl ?_
      refine pr_bipush dX11_fill_83 (by decide) ?_
      obtain ⟨q12, e13, h⟩ := pm_bs h
      refine pr_callV (As := [pv_i (-3)]) (S := [pv_i 1000000000]) (t := 0) dX11_fill_85 mk_X11_69 lc_0 (ci := 11) (q := (RX11, TX11, 11)) rfl rfl rfl rfl (Nat.le_of_ble_eq_true rfl) (by decide) (by decide) (Or.inl rfl) (tmX11_refuse e13) ?_
      refine pr_isub dX11_fill_88 ?_
      have h := Option.some.inj h
      subst h
      exact pr_iret dX11_fill_89 rfl
    · have h := pm_ng c_11 h
      refine pr_aload_n dX11_fill_70 rfl ?_
      refine pr_getR dX11_fill_71 lk_X11_59 lc_0 rfl ?_
      refine pr_iload_n dX11_fill_74 rfl ?_
      obtain ⟨g_14, h⟩ := pm_gs h
      refine pr_iald dX11_fill_75 lc_92 rfl g_14 ?_
      refine pr_iload_n dX11_fill_76 rfl ?_
      refine pr_icmp_ge (tgt := 90) dX11_fill_77 rfl rfl (by decide) (fun c_15 => ?_) (fun c_15 => ?_)
      · have h := pm_pos c_15 h
        refine pr_aload_n dX11_fill_90 rfl ?_
        refine pr_getR dX11_fill_91 lk_X11_59 lc_0 rfl ?_
        refine pr_iload_n dX11_fill_94 rfl ?_
        refine pr_dup2 dX11_fill_95 rfl rfl ?_
        obtain ⟨g_16, h⟩ := pm_gs h
        refine pr_iald dX11_fill_96 lc_92 rfl g_16 ?_
        refine pr_iload_n dX11_fill_97 rfl ?_
        refine pr_isub dX11_fill_98 ?_
        obtain ⟨g_17, h⟩ := pm_gs h
        refine pr_iast dX11_fill_99 lc_92 rfl g_17 ?_
        refine pr_aload_n dX11_fill_100 rfl ?_
        refine pr_getR dX11_fill_101 lk_X11_38 lc_0 rfl ?_
        refine pr_getR dX11_fill_104 lk_X11_225 lc_81 rfl ?_
        refine pr_iload_n dX11_fill_107 rfl ?_
        refine pr_aload_n dX11_fill_108 rfl ?_
        refine pr_getR dX11_fill_109 lk_X11_28 lc_0 rfl ?_
        refine pr_getI dX11_fill_112 lk_X11_109 lc_15 rfl ?_
        obtain ⟨g_18, h⟩ := pm_gs h
        refine pr_iast dX11_fill_115 lc_87 rfl g_18 ?_
        refine pr_aload_n dX11_fill_116 rfl ?_
        refine pr_getR dX11_fill_117 lk_X11_38 lc_0 rfl ?_
        refine pr_iload_n dX11_fill_120 rfl ?_
        refine pr_aload_n dX11_fill_121 rfl ?_
        refine pr_getR dX11_fill_122 lk_X11_28 lc_0 rfl ?_
        obtain ⟨q19, e20, h⟩ := pm_bs h
        refine pr_callV (As := []) (S := [pv_i x1, pv_r 81]) (t := 15) dX11_fill_125 mk_X11_228 lc_15 (ci := 10) (q := (RX10, TX10, 8)) rfl rfl rfl rfl (Nat.le_of_ble_eq_true rfl) (by decide) (by decide) (Or.inl rfl) (tmX10_today (Or.inl rfl) e20) ?_
        refine pr_aload_n dX11_fill_128 rfl ?_
        refine pr_getR dX11_fill_129 lk_X11_55 lc_0 rfl ?_
        refine pr_aload_n dX11_fill_132 rfl ?_
        refine pr_getR dX11_fill_133 lk_X11_38 lc_0 rfl ?_
        refine pr_getR dX11_fill_136 lk_X11_213 lc_81 rfl ?_
        refine pr_iload_n dX11_fill_139 rfl ?_
        obtain ⟨g_21, h⟩ := pm_gs h
        refine pr_iald dX11_fill_140 lc_83 rfl g_21 ?_
        obtain ⟨g_22, h⟩ := pm_gs h
        refine pr_iald dX11_fill_141 lc_91 rfl g_22 ?_
        obtain ⟨q23, e24, h⟩ := pm_bs h
        refine pr_callV (As := [pv_i x1, pv_i q19, pv_i ((pm_up (pm_up σ 92 (Int.toNat (wr q6)) ((σ 92 (Int.toNat (wr q6))) - ((σ 84 (Int.toNat (wr x1))) * 480))) 87 (Int.toNat (wr x1)) ((pm_up σ 92 (Int.toNat (wr q6)) ((σ 92 (Int.toNat (wr q6))) - ((σ 84 (Int.toNat (wr x1))) * 480))) 15 7)) 91 (Int.toNat (wr ((pm_up (pm_up σ 92 (Int.toNat (wr q6)) ((σ 92 (Int.toNat (wr q6))) - ((σ 84 (Int.toNat (wr x1))) * 480))) 87 (Int.toNat (wr x1)) ((pm_up σ 92 (Int.toNat (wr q6)) ((σ 92 (Int.toNat (wr q6))) - ((σ 84 (Int.toNat (wr x1))) * 480))) 15 7)) 83 (Int.toNat (wr x1))))))]) (S := []) (t := 81) dX11_fill_142 mk_X11_232 lc_81 (ci := 5) (q := (RX5, TX5, 10)) rfl rfl rfl rfl (Nat.le_of_ble_eq_true rfl) (by decide) (by decide) (Or.inl rfl) (tmX5_coinsFor e24) ?_
        refine pr_istore dX11_fill_145 (by decide) rfl ?_
        refine pr_aload_n dX11_fill_147 rfl ?_
        refine pr_dup dX11_fill_148 rfl ?_
        refine pr_getI dX11_fill_149 lk_X11_235 lc_0 rfl ?_
        refine pr_iload dX11_fill_152 rfl ?_
        refine pr_iadd dX11_fill_154 ?_
        refine pr_putI dX11_fill_155 lp_X11_235 lc_0 rfl ?_
        refine pr_iload dX11_fill_158 rfl ?_
        have h := Option.some.inj h
        subst h
        exact pr_iret dX11_fill_160 rfl
      · have h := pm_ng c_15 h
        refine pr_ldc dX11_fill_80 lkc_X11_211 ?_
        refine pr_aload_n dX11_fill_82 rfl ?_
        refine pr_bipush dX11_fill_83 (by decide) ?_
        obtain ⟨q25, e26, h⟩ := pm_bs h
        refine pr_callV (As := [pv_i (-3)]) (S := [pv_i 1000000000]) (t := 0) dX11_fill_85 mk_X11_69 lc_0 (ci := 11) (q := (RX11, TX11, 11)) rfl rfl rfl rfl (Nat.le_of_ble_eq_true rfl) (by decide) (by decide) (Or.inl rfl) (tmX11_refuse e26) ?_
        refine pr_isub dX11_fill_88 ?_
        have h := Option.some.inj h
        subst h
        exact pr_iret dX11_fill_89 rfl
  · have h := pm_pos c_3 h
    refine pr_ldc dX11_fill_14 lkc_X11_211 ?_
    refine pr_aload_n dX11_fill_16 rfl ?_
    refine pr_iconst dX11_fill_17 ?_
    obtain ⟨q27, e28, h⟩ := pm_bs h
    refine pr_callV (As := [pv_i (-1)]) (S := [pv_i 1000000000]) (t := 0) dX11_fill_18 mk_X11_69 lc_0 (ci := 11) (q := (RX11, TX11, 11)) rfl rfl rfl rfl (Nat.le_of_ble_eq_true rfl) (by decide) (by decide) (Or.inl rfl) (tmX11_refuse e28) ?_
    refine pr_isub dX11_fill_21 ?_
    have h := Option.some.inj h
    subst h
    exact pr_iret dX11_fill_22 rfl
def fX11_planRefusal (x1 : Int) (σ : pm_M) : Option (Int) :=
  (fX5_open σ).bind fun q1 => if (wr q1) ≤ 8 then (if 1 ≤ (wr x1) then (if (wr x1) ≤ 9600 then (some 0) else (some (-6))) else (some (-4))) else (some (-3))
set_option maxHeartbeats 4000000 in
set_option maxRecDepth 100000 in
theorem tmX11_planRefusal {x1 : Int} {σ : pm_M} {ρ : Int} (h : fX11_planRefusal x1 σ = some ρ) : pm_C mX11_planRefusal 2 43 [pv_r 0, pv_i x1] LAYC σ (some (pv_i ρ)) LAYC σ := by
  refine pm_C.of (by decide) rfl (Nat.le_of_ble_eq_true rfl) ?_
  show pm_J mX11_planRefusal 2 43 LAYC (some (pv_i ρ)) LAYC σ 0 [some (pv_r 0), some (pv_i x1)] [] LAYC σ
  unfold fX11_planRefusal at h
  refine pr_aload_n dX11_planRefusal_0 rfl ?_
  refine pr_getR dX11_planRefusal_1 lk_X11_38 lc_0 rfl ?_
  obtain ⟨q1, e2, h⟩ := pm_bs h
  refine pr_callV (As := []) (S := []) (t := 81) dX11_planRefusal_4 mk_X11_355 lc_81 (ci := 5) (q := (RX5, TX5, 10)) rfl rfl rfl rfl (Nat.le_of_ble_eq_true rfl) (by decide) (by decide) (Or.inl rfl) (tmX5_open e2) ?_
  refine pr_bipush dX11_planRefusal_7 (by decide) ?_
  refine pr_icmp_le (tgt := 15) dX11_planRefusal_9 rfl (wr_eq (by decide) (by decide)) (by decide) (fun c_3 => ?_) (fun c_3 => ?_)
  · have h := pm_pos c_3 h
    refine pr_iload_n dX11_planRefusal_15 rfl ?_
    refine pr_iconst dX11_planRefusal_16 ?_
    refine pr_icmp_ge (tgt := 23) dX11_planRefusal_17 rfl (wr_eq (by decide) (by decide)) (by decide) (fun c_4 => ?_) (fun c_4 => ?_)
    · have h := pm_pos c_4 h
      refine pr_iload_n dX11_planRefusal_23 rfl ?_
      refine pr_sipush dX11_planRefusal_24 (by decide) ?_
      refine pr_icmp_le (tgt := 35) dX11_planRefusal_27 rfl (wr_eq (by decide) (by decide)) (by decide) (fun c_5 => ?_) (fun c_5 => ?_)
      · have h := pm_pos c_5 h
        refine pr_iconst dX11_planRefusal_35 ?_
        have h := Option.some.inj h
        subst h
        exact pr_iret dX11_planRefusal_36 rfl
      · have h := pm_ng c_5 h
        refine pr_bipush dX11_planRefusal_30 (by decide) ?_
        refine pr_goto (tgt := 36) dX11_planRefusal_32 (by decide) ?_
        have h := Option.some.inj h
        subst h
        exact pr_iret dX11_planRefusal_36 rfl
    · have h := pm_ng c_4 h
      refine pr_bipush dX11_planRefusal_20 (by decide) ?_
      have h := Option.some.inj h
      subst h
      exact pr_iret dX11_planRefusal_22 rfl
  · have h := pm_ng c_3 h
    refine pr_bipush dX11_planRefusal_12 (by decide) ?_
    have h := Option.some.inj h
    subst h
    exact pr_iret dX11_planRefusal_14 rfl
