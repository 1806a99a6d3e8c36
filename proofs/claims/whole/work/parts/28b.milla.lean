def fX11_duty (x1 : Int) (x2 : Int) (σ : pm_M) : Option (Int × pm_M) :=
  (fX11_isWeight x1).bind fun q1 => if (wr q1) = 0 then ((fX11_refuse (-1) σ).bind fun q12 => some (q12.1, q12.2)) else (if 0 ≤ (wr x2) then (if (wr x2) ≤ 99 then (pm_g (0 ≤ (wr x1) ∧ (wr x1) < 9) (pm_g (0 ≤ (wr x1) ∧ (wr x1) < 9) (some ((σ 91 (Int.toNat (wr x1))), (pm_up σ 91 (Int.toNat (wr x1)) x2))))) else ((fX11_refuse (-6) σ).bind fun q8 => some (q8.1, q8.2))) else ((fX11_refuse (-4) σ).bind fun q10 => some (q10.1, q10.2)))
set_option maxHeartbeats 4000000 in
set_option maxRecDepth 100000 in
theorem tmX11_duty {x1 : Int} {x2 : Int} {σ : pm_M} {ρ : Int × pm_M} (h : fX11_duty x1 x2 σ = some ρ) : pm_C mX11_duty 1 21 [pv_r 0, pv_i x1, pv_i x2] LAYC σ (some (pv_i ρ.1)) LAYC ρ.2 := by
  refine pm_C.of rfl rfl (by decide) ?_
  show pm_J mX11_duty 1 21 LAYC (some (pv_i ρ.1)) LAYC ρ.2 0 [some (pv_r 0), some (pv_i x1), some (pv_i x2), none] [] LAYC σ
  unfold fX11_duty at h
  refine pr_iload_n dX11_duty_0 rfl ?_
  obtain ⟨q1, e2, h⟩ := pm_bs h
  refine pr_callS (av := [pv_i x1]) (S := []) dX11_duty_1 mk_X11_139 rfl rfl (by decide) (by decide) (by decide) (Or.inl rfl) (tmX11_isWeight e2) ?_
  refine pr_if_ne (tgt := 13) dX11_duty_4 rfl (by decide) (fun c_3 => ?_) (fun c_3 => ?_)
  · have h := pm_ng c_3 h
    refine pr_iload_n dX11_duty_13 rfl ?_
    refine pr_if_ge (tgt := 24) dX11_duty_14 rfl (by decide) (fun c_4 => ?_) (fun c_4 => ?_)
    · have h := pm_pos c_4 h
      refine pr_iload_n dX11_duty_24 rfl ?_
      refine pr_bipush dX11_duty_25 (by decide) ?_
      refine pr_icmp_le (tgt := 37) dX11_duty_27 rfl (wr_eq (by decide) (by decide)) (by decide) (fun c_5 => ?_) (fun c_5 => ?_)
      · have h := pm_pos c_5 h
        refine pr_aload_n dX11_duty_37 rfl ?_
        refine pr_getR dX11_duty_38 lk_X11_55 lc_0 rfl ?_
        refine pr_iload_n dX11_duty_41 rfl ?_
        obtain ⟨g_6, h⟩ := pm_gs h
        refine pr_iald dX11_duty_42 lc_91 rfl g_6 ?_
        refine pr_istore_n dX11_duty_43 (by decide) rfl ?_
        refine pr_aload_n dX11_duty_44 rfl ?_
        refine pr_getR dX11_duty_45 lk_X11_55 lc_0 rfl ?_
        refine pr_iload_n dX11_duty_48 rfl ?_
        refine pr_iload_n dX11_duty_49 rfl ?_
        obtain ⟨g_7, h⟩ := pm_gs h
        refine pr_iast dX11_duty_50 lc_91 rfl g_7 ?_
        refine pr_iload_n dX11_duty_51 rfl ?_
        have h := Option.some.inj h
        subst h
        exact pr_iret dX11_duty_52 rfl
      · have h := pm_ng c_5 h
        refine pr_aload_n dX11_duty_30 rfl ?_
        refine pr_bipush dX11_duty_31 (by decide) ?_
        obtain ⟨q8, e9, h⟩ := pm_bs h
        refine pr_callV (As := [pv_i (-6)]) (S := []) (t := 0) dX11_duty_33 mk_X11_69 lc_0 (ci := 11) (q := (RX11, TX11, 11)) rfl rfl rfl rfl (by decide) (by decide) (by decide) (Or.inl rfl) (tmX11_refuse e9) ?_
        have h := Option.some.inj h
        subst h
        exact pr_iret dX11_duty_36 rfl
    · have h := pm_ng c_4 h
      refine pr_aload_n dX11_duty_17 rfl ?_
      refine pr_bipush dX11_duty_18 (by decide) ?_
      obtain ⟨q10, e11, h⟩ := pm_bs h
      refine pr_callV (As := [pv_i (-4)]) (S := []) (t := 0) dX11_duty_20 mk_X11_69 lc_0 (ci := 11) (q := (RX11, TX11, 11)) rfl rfl rfl rfl (by decide) (by decide) (by decide) (Or.inl rfl) (tmX11_refuse e11) ?_
      have h := Option.some.inj h
      subst h
      exact pr_iret dX11_duty_23 rfl
  · have h := pm_pos c_3 h
    refine pr_aload_n dX11_duty_7 rfl ?_
    refine pr_iconst dX11_duty_8 ?_
    obtain ⟨q12, e13, h⟩ := pm_bs h
    refine pr_callV (As := [pv_i (-1)]) (S := []) (t := 0) dX11_duty_9 mk_X11_69 lc_0 (ci := 11) (q := (RX11, TX11, 11)) rfl rfl rfl rfl (by decide) (by decide) (by decide) (Or.inl rfl) (tmX11_refuse e13) ?_
    have h := Option.some.inj h
    subst h
    exact pr_iret dX11_duty_12 rfl
def fX11_order (x1 : Int) (x2 : Int) (x3 : Int) (x4 : Int) (x5 : Int) (σ : pm_M) : Option (Int × pm_M) :=
  (fX11_isNumber x1 9).bind fun q1 => if (wr q1) = 0 then ((fX11_refuse (-1) σ).bind fun q4 => some (q4.1, q4.2)) else ((fX11_isWeight x2).bind fun q6 => if (wr q6) = 0 then ((fX11_refuse (-1) σ).bind fun q32 => some (q32.1, q32.2)) else (if (wr x3) < 1 then ((fX11_refuse (-4) σ).bind fun q10 => some (q10.1, q10.2)) else (if (wr x4) < 0 then ((fX11_refuse (-4) σ).bind fun q13 => some (q13.1, q13.2)) else (if 0 ≤ (wr x5) then (if 20 < (wr x3) then ((fX11_refuse (-6) σ).bind fun q17 => some (q17.1, q17.2)) else (if 101 ≤ (wr x4) then ((fX11_refuse (-6) σ).bind fun q20 => some (q20.1, q20.2)) else (if (wr x5) ≤ 999 then (if (wr (σ 81 6)) = 12 then ((fX11_refuse (-6) σ).bind fun q26 => some (q26.1, q26.2)) else ((fX5_take x1 x2 x3 x4 x5 σ).bind fun q24 => some (q24.1, q24.2))) else ((fX11_refuse (-6) σ).bind fun q28 => some (q28.1, q28.2))))) else ((fX11_refuse (-4) σ).bind fun q30 => some (q30.1, q30.2))))))
set_option maxHeartbeats 4000000 in
set_option maxRecDepth 100000 in
theorem tmX11_order {x1 : Int} {x2 : Int} {x3 : Int} {x4 : Int} {x5 : Int} {σ : pm_M} {ρ : Int × pm_M} (h : fX11_order x1 x2 x3 x4 x5 σ = some ρ) : pm_C mX11_order 1 25 [pv_r 0, pv_i x1, pv_i x2, pv_i x3, pv_i x4, pv_i x5] LAYC σ (some (pv_i ρ.1)) LAYC ρ.2 := by
  refine pm_C.of rfl rfl (by decide) ?_
  show pm_J mX11_order 1 25 LAYC (some (pv_i ρ.1)) LAYC ρ.2 0 [some (pv_r 0), some (pv_i x1), some (pv_i x2), some (pv_i x3), some (pv_i x4), some (pv_i x5)] [] LAYC σ
  unfold fX11_order at h
  refine pr_iload_n dX11_order_0 rfl ?_
  refine pr_bipush dX11_order_1 (by decide) ?_
  obtain ⟨q1, e2, h⟩ := pm_bs h
  refine pr_callS (av := [pv_i x1, pv_i 9]) (S := []) dX11_order_3 mk_X11_65 rfl rfl (by decide) (by decide) (by decide) (Or.inl rfl) (tmX11_isNumber e2) ?_
  refine pr_if_eq (tgt := 16) dX11_order_6 rfl (by decide) (fun c_3 => ?_) (fun c_3 => ?_)
  · have h := pm_pos c_3 h
    refine pr_aload_n dX11_order_16 rfl ?_
    refine pr_iconst dX11_order_17 ?_
    obtain ⟨q4, e5, h⟩ := pm_bs h
    refine pr_callV (As := [pv_i (-1)]) (S := []) (t := 0) dX11_order_18 mk_X11_69 lc_0 (ci := 11) (q := (RX11, TX11, 11)) rfl rfl rfl rfl (by decide) (by decide) (by decide) (Or.inl rfl) (tmX11_refuse e5) ?_
    have h := Option.some.inj h
    subst h
    exact pr_iret dX11_order_21 rfl
  · have h := pm_ng c_3 h
    refine pr_iload_n dX11_order_9 rfl ?_
    obtain ⟨q6, e7, h⟩ := pm_bs h
    refine pr_callS (av := [pv_i x2]) (S := []) dX11_order_10 mk_X11_139 rfl rfl (by decide) (by decide) (by decide) (Or.inl rfl) (tmX11_isWeight e7) ?_
    refine pr_if_ne (tgt := 22) dX11_order_13 rfl (by decide) (fun c_8 => ?_) (fun c_8 => ?_)
    · have h := pm_ng c_8 h
      refine pr_iload_n dX11_order_22 rfl ?_
      refine pr_iconst dX11_order_23 ?_
      refine pr_icmp_lt (tgt := 37) dX11_order_24 rfl (wr_eq (by decide) (by decide)) (by decide) (fun c_9 => ?_) (fun c_9 => ?_)
      · have h := pm_pos c_9 h
        refine pr_aload_n dX11_order_37 rfl ?_
        refine pr_bipush dX11_order_38 (by decide) ?_
        obtain ⟨q10, e11, h⟩ := pm_bs h
        refine pr_callV (As := [pv_i (-4)]) (S := []) (t := 0) dX11_order_40 mk_X11_69 lc_0 (ci := 11) (q := (RX11, TX11, 11)) rfl rfl rfl rfl (by decide) (by decide) (by decide) (Or.inl rfl) (tmX11_refuse e11) ?_
        have h := Option.some.inj h
        subst h
        exact pr_iret dX11_order_43 rfl
      · have h := pm_ng c_9 h
        refine pr_iload dX11_order_27 rfl ?_
        refine pr_if_lt (tgt := 37) dX11_order_29 rfl (by decide) (fun c_12 => ?_) (fun c_12 => ?_)
        · have h := pm_pos c_12 h
          refine pr_aload_n dX11_order_37 rfl ?_
          refine pr_bipush dX11_order_38 (by decide) ?_
          obtain ⟨q13, e14, h⟩ := pm_bs h
          refine pr_callV (As := [pv_i (-4)]) (S := []) (t := 0) dX11_order_40 mk_X11_69 lc_0 (ci := 11) (q := (RX11, TX11, 11)) rfl rfl rfl rfl (by decide) (by decide) (by decide) (Or.inl rfl) (tmX11_refuse e14) ?_
          have h := Option.some.inj h
          subst h
          exact pr_iret dX11_order_43 rfl
        · have h := pm_ng c_12 h
          refine pr_iload dX11_order_32 rfl ?_
          refine pr_if_ge (tgt := 44) dX11_order_34 rfl (by decide) (fun c_15 => ?_) (fun c_15 => ?_)
          · have h := pm_pos c_15 h
            refine pr_iload_n dX11_order_44 rfl ?_
            refine pr_bipush dX11_order_45 (by decide) ?_
            refine pr_icmp_gt (tgt := 65) dX11_order_47 rfl (wr_eq (by decide) (by decide)) (by decide) (fun c_16 => ?_) (fun c_16 => ?_)
            · have h := pm_pos c_16 h
              refine pr_aload_n dX11_order_65 rfl ?_
              refine pr_bipush dX11_order_66 (by decide) ?_
              obtain ⟨q17, e18, h⟩ := pm_bs h
              refine pr_callV (As := [pv_i (-6)]) (S := []) (t := 0) dX11_order_68 mk_X11_69 lc_0 (ci := 11) (q := (RX11, TX11, 11)) rfl rfl rfl rfl (by decide) (by decide) (by decide) (Or.inl rfl) (tmX11_refuse e18) ?_
              have h := Option.some.inj h
              subst h
              exact pr_iret dX11_order_71 rfl
            · have h := pm_ng c_16 h
              refine pr_iload dX11_order_50 rfl ?_
              refine pr_bipush dX11_order_52 (by decide) ?_
              refine pr_icmp_ge (tgt := 65) dX11_order_54 rfl (wr_eq (by decide) (by decide)) (by decide) (fun c_19 => ?_) (fun c_19 => ?_)
              · have h := pm_pos c_19 h
                refine pr_aload_n dX11_order_65 rfl ?_
                refine pr_bipush dX11_order_66 (by decide) ?_
                obtain ⟨q20, e21, h⟩ := pm_bs h
                refine pr_callV (As := [pv_i (-6)]) (S := []) (t := 0) dX11_order_68 mk_X11_69 lc_0 (ci := 11) (q := (RX11, TX11, 11)) rfl rfl rfl rfl (by decide) (by decide) (by decide) (Or.inl rfl) (tmX11_refuse e21) ?_
                have h := Option.some.inj h
                subst h
                exact pr_iret dX11_order_71 rfl
              · have h := pm_ng c_19 h
                refine pr_iload dX11_order_57 rfl ?_
                refine pr_sipush dX11_order_59 (by decide) ?_
                refine pr_icmp_le (tgt := 72) dX11_order_62 rfl (wr_eq (by decide) (by decide)) (by decide) (fun c_22 => ?_) (fun c_22 => ?_)
                · have h := pm_pos c_22 h
                  refine pr_aload_n dX11_order_72 rfl ?_
                  refine pr_getR dX11_order_73 lk_X11_38 lc_0 rfl ?_
                  refine pr_getI dX11_order_76 lk_X11_205 lc_81 rfl ?_
                  refine pr_bipush dX11_order_79 (by decide) ?_
                  refine pr_icmp_ne (tgt := 91) dX11_order_81 rfl (wr_eq (by decide) (by decide)) (by decide) (fun c_23 => ?_) (fun c_23 => ?_)
                  · have h := pm_ng c_23 h
                    refine pr_aload_n dX11_order_91 rfl ?_
                    refine pr_getR dX11_order_92 lk_X11_38 lc_0 rfl ?_
                    refine pr_iload_n dX11_order_95 rfl ?_
                    refine pr_iload_n dX11_order_96 rfl ?_
                    refine pr_iload_n dX11_order_97 rfl ?_
                    refine pr_iload dX11_order_98 rfl ?_
                    refine pr_iload dX11_order_100 rfl ?_
                    obtain ⟨q24, e25, h⟩ := pm_bs h
                    refine pr_callV (As := [pv_i x1, pv_i x2, pv_i x3, pv_i x4, pv_i x5]) (S := []) (t := 81) dX11_order_102 mk_X11_208 lc_81 (ci := 5) (q := (RX5, TX5, 10)) rfl rfl rfl rfl (by decide) (by decide) (by decide) (Or.inl rfl) (tmX5_take e25) ?_
                    have h := Option.some.inj h
                    subst h
                    exact pr_iret dX11_order_105 rfl
                  · have h := pm_pos c_23 h
                    refine pr_aload_n dX11_order_84 rfl ?_
                    refine pr_bipush dX11_order_85 (by decide) ?_
                    obtain ⟨q26, e27, h⟩ := pm_bs h
                    refine pr_callV (As := [pv_i (-6)]) (S := []) (t := 0) dX11_order_87 mk_X11_69 lc_0 (ci := 11) (q := (RX11, TX11, 11)) rfl rfl rfl rfl (by decide) (by decide) (by decide) (Or.inl rfl) (tmX11_refuse e27) ?_
                    have h := Option.some.inj h
                    subst h
                    exact pr_iret dX11_order_90 rfl
                · have h := pm_ng c_22 h
                  refine pr_aload_n dX11_order_65 rfl ?_
                  refine pr_bipush dX11_order_66 (by decide) ?_
                  obtain ⟨q28, e29, h⟩ := pm_bs h
                  refine pr_callV (As := [pv_i (-6)]) (S := []) (t := 0) dX11_order_68 mk_X11_69 lc_0 (ci := 11) (q := (RX11, TX11, 11)) rfl rfl rfl rfl (by decide) (by decide) (by decide) (Or.inl rfl) (tmX11_refuse e29) ?_
                  have h := Option.some.inj h
                  subst h
                  exact pr_iret dX11_order_71 rfl
          · have h := pm_ng c_15 h
            refine pr_aload_n dX11_order_37 rfl ?_
            refine pr_bipush dX11_order_38 (by decide) ?_
            obtain ⟨q30, e31, h⟩ := pm_bs h
            refine pr_callV (As := [pv_i (-4)]) (S := []) (t := 0) dX11_order_40 mk_X11_69 lc_0 (ci := 11) (q := (RX11, TX11, 11)) rfl rfl rfl rfl (by decide) (by decide) (by decide) (Or.inl rfl) (tmX11_refuse e31) ?_
            have h := Option.some.inj h
            subst h
            exact pr_iret dX11_order_43 rfl
    · have h := pm_pos c_8 h
      refine pr_aload_n dX11_order_16 rfl ?_
      refine pr_iconst dX11_order_17 ?_
      obtain ⟨q32, e33, h⟩ := pm_bs h
      refine pr_callV (As := [pv_i (-1)]) (S := []) (t := 0) dX11_order_18 mk_X11_69 lc_0 (ci := 11) (q := (RX11, TX11, 11)) rfl rfl rfl rfl (by decide) (by decide) (by decide) (Or.inl rfl) (tmX11_refuse e33) ?_
      have h := Option.some.inj h
      subst h
      exact pr_iret dX11_order_21 rfl
def fX11_fill (x1 : Int) (σ : pm_M) : Option (Int × pm_M) :=
  (fX11_isNumber x1 (σ 81 6)).bind fun q1 => if (wr q1) = 0 then ((fX11_refuse (-1) σ).bind fun q27 => some ((1000000000 - q27.1), q27.2)) else (pm_g (0 ≤ (wr x1) ∧ (wr x1) < 12) (pm_g (0 ≤ (wr x1) ∧ (wr x1) < 12) ((fX11_shelfOf (σ 82 (Int.toNat (wr x1))) (σ 83 (Int.toNat (wr x1)))).bind fun q6 => pm_g (0 ≤ (wr x1) ∧ (wr x1) < 12) ((fX5_isOpen x1 σ).bind fun q9 => if (wr q9) = 0 then ((fX11_refuse (-3) σ).bind fun q12 => some ((1000000000 - q12.1), q12.2)) else (pm_g (0 ≤ (wr q6) ∧ (wr q6) < 81) (if (wr ((σ 84 (Int.toNat (wr x1))) * 480)) ≤ (wr (σ 92 (Int.toNat (wr q6)))) then (pm_g (0 ≤ (wr q6) ∧ (wr q6) < 81) (pm_g (0 ≤ (wr q6) ∧ (wr q6) < 81) (pm_g (0 ≤ (wr x1) ∧ (wr x1) < 12) ((fX10_today 15 (pm_up (pm_up σ 92 (Int.toNat (wr q6)) ((σ 92 (Int.toNat (wr q6))) - ((σ 84 (Int.toNat (wr x1))) * 480))) 87 (Int.toNat (wr x1)) ((pm_up σ 92 (Int.toNat (wr q6)) ((σ 92 (Int.toNat (wr q6))) - ((σ 84 (Int.toNat (wr x1))) * 480))) 15 7))).bind fun q19 => pm_g (0 ≤ (wr x1) ∧ (wr x1) < 12) (pm_g (0 ≤ (wr ((pm_up (pm_up σ 92 (Int.toNat (wr q6)) ((σ 92 (Int.toNat (wr q6))) - ((σ 84 (Int.toNat (wr x1))) * 480))) 87 (Int.toNat (wr x1)) ((pm_up σ 92 (Int.toNat (wr q6)) ((σ 92 (Int.toNat (wr q6))) - ((σ 84 (Int.toNat (wr x1))) * 480))) 15 7)) 83 (Int.toNat (wr x1)))) ∧ (wr ((pm_up (pm_up σ 92 (Int.toNat (wr q6)) ((σ 92 (Int.toNat (wr q6))) - ((σ 84 (Int.toNat (wr x1))) * 480))) 87 (Int.toNat (wr x1)) ((pm_up σ 92 (Int.toNat (wr q6)) ((σ 92 (Int.toNat (wr q6))) - ((σ 84 (Int.toNat (wr x1))) * 480))) 15 7)) 83 (Int.toNat (wr x1)))) < 9) ((fX5_coinsFor x1 q19 ((pm_up (pm_up σ 92 (Int.toNat (wr q6)) ((σ 92 (Int.toNat (wr q6))) - ((σ 84 (Int.toNat (wr x1))) * 480))) 87 (Int.toNat (wr x1)) ((pm_up σ 92 (Int.toNat (wr q6)) ((σ 92 (Int.toNat (wr q6))) - ((σ 84 (Int.toNat (wr x1))) * 480))) 15 7)) 91 (Int.toNat (wr ((pm_up (pm_up σ 92 (Int.toNat (wr q6)) ((σ 92 (Int.toNat (wr q6))) - ((σ 84 (Int.toNat (wr x1))) * 480))) 87 (Int.toNat (wr x1)) ((pm_up σ 92 (Int.toNat (wr q6)) ((σ 92 (Int.toNat (wr q6))) - ((σ 84 (Int.toNat (wr x1))) * 480))) 15 7)) 83 (Int.toNat (wr x1)))))) (pm_up (pm_up σ 92 (Int.toNat (wr q6)) ((σ 92 (Int.toNat (wr q6))) - ((σ 84 (Int.toNat (wr x1))) * 480))) 87 (Int.toNat (wr x1)) ((pm_up σ 92 (Int.toNat (wr q6)) ((σ 92 (Int.toNat (wr q6))) - ((σ 84 (Int.toNat (wr x1))) * 480))) 15 7))).bind fun q23 => some (q23, (pm_up (pm_up (pm_up σ 92 (Int.toNat (wr q6)) ((σ 92 (Int.toNat (wr q6))) - ((σ 84 (Int.toNat (wr x1))) * 480))) 87 (Int.toNat (wr x1)) ((pm_up σ 92 (Int.toNat (wr q6)) ((σ 92 (Int.toNat (wr q6))) - ((σ 84 (Int.toNat (wr x1))) * 480))) 15 7)) 0 10 (((pm_up (pm_up σ 92 (Int.toNat (wr q6)) ((σ 92 (Int.toNat (wr q6))) - ((σ 84 (Int.toNat (wr x1))) * 480))) 87 (Int.toNat (wr x1)) ((pm_up σ 92 (Int.toNat (wr q6)) ((σ 92 (Int.toNat (wr q6))) - ((σ 84 (Int.toNat (wr x1))) * 480))) 15 7)) 0 10) + q23))))))))) else ((fX11_refuse (-3) σ).bind fun q25 => some ((1000000000 - q25.1), q25.2))))))))
set_option maxHeartbeats 4000000 in
set_option maxRecDepth 100000 in
theorem tmX11_fill {x1 : Int} {σ : pm_M} {ρ : Int × pm_M} (h : fX11_fill x1 σ = some ρ) : pm_C mX11_fill 1 24 [pv_r 0, pv_i x1] LAYC σ (some (pv_i ρ.1)) LAYC ρ.2 := by
  refine pm_C.of rfl rfl (by decide) ?_
  show pm_J mX11_fill 1 24 LAYC (some (pv_i ρ.1)) LAYC ρ.2 0 [some (pv_r 0), some (pv_i x1), none, none, none] [] LAYC σ
  unfold fX11_fill at h
  refine pr_iload_n dX11_fill_0 rfl ?_
  refine pr_aload_n dX11_fill_1 rfl ?_
  refine pr_getR dX11_fill_2 lk_X11_38 lc_0 rfl ?_
  refine pr_getI dX11_fill_5 lk_X11_205 lc_81 rfl ?_
  obtain ⟨q1, e2, h⟩ := pm_bs h
  refine pr_callS (av := [pv_i x1, pv_i (σ 81 6)]) (S := []) dX11_fill_8 mk_X11_65 rfl rfl (by decide) (by decide) (by decide) (Or.inl rfl) (tmX11_isNumber e2) ?_
  refine pr_if_ne (tgt := 23) dX11_fill_11 rfl (by decide) (fun c_3 => ?_) (fun c_3 => ?_)
  · have h := pm_ng c_3 h
    refine pr_aload_n dX11_fill_23 rfl ?_
    refine pr_getR dX11_fill_24 lk_X11_38 lc_0 rfl ?_
    refine pr_getR dX11_fill_27 lk_X11_212 lc_81 rfl ?_
    refine pr_iload_n dX11_fill_30 rfl ?_
    obtain ⟨g_4, h⟩ := pm_gs h
    refine pr_iald dX11_fill_31 lc_82 rfl g_4 ?_
    refine pr_aload_n dX11_fill_32 rfl ?_
    refine pr_getR dX11_fill_33 lk_X11_38 lc_0 rfl ?_
    refine pr_getR dX11_fill_36 lk_X11_213 lc_81 rfl ?_
    refine pr_iload_n dX11_fill_39 rfl ?_
    obtain ⟨g_5, h⟩ := pm_gs h
    refine pr_iald dX11_fill_40 lc_83 rfl g_5 ?_
    obtain ⟨q6, e7, h⟩ := pm_bs h
    refine pr_callS (av := [pv_i (σ 82 (Int.toNat (wr x1))), pv_i (σ 83 (Int.toNat (wr x1)))]) (S := []) dX11_fill_41 mk_X11_216 rfl rfl (by decide) (by decide) (by decide) (Or.inl rfl) (tmX11_shelfOf e7) ?_
    refine pr_istore_n dX11_fill_44 (by decide) rfl ?_
    refine pr_aload_n dX11_fill_45 rfl ?_
    refine pr_getR dX11_fill_46 lk_X11_38 lc_0 rfl ?_
    refine pr_getR dX11_fill_49 lk_X11_219 lc_81 rfl ?_
    refine pr_iload_n dX11_fill_52 rfl ?_
    obtain ⟨g_8, h⟩ := pm_gs h
    refine pr_iald dX11_fill_53 lc_84 rfl g_8 ?_
    refine pr_sipush dX11_fill_54 (by decide) ?_
    refine pr_imul dX11_fill_57 ?_
    refine pr_istore_n dX11_fill_58 (by decide) rfl ?_
    refine pr_aload_n dX11_fill_59 rfl ?_
    refine pr_getR dX11_fill_60 lk_X11_38 lc_0 rfl ?_
    refine pr_iload_n dX11_fill_63 rfl ?_
    obtain ⟨q9, e10, h⟩ := pm_bs h
    refine pr_callV (As := [pv_i x1]) (S := []) (t := 81) dX11_fill_64 mk_X11_222 lc_81 (ci := 5) (q := (RX5, TX5, 10)) rfl rfl rfl rfl (by decide) (by decide) (by decide) (Or.inl rfl) (tmX5_isOpen e10) ?_
    refine pr_if_eq (tgt := 80) dX11_fill_67 rfl (by decide) (fun c_11 => ?_) (fun c_11 => ?_)
    · have h := pm_pos c_11 h
      refine pr_ldc dX11_fill_80 lkc_X11_211 ?_
      refine pr_aload_n dX11_fill_82 rfl ?_
      refine pr_bipush dX11_fill_83 (by decide) ?_
      obtain ⟨q12, e13, h⟩ := pm_bs h
      refine pr_callV (As := [pv_i (-3)]) (S := [pv_i 1000000000]) (t := 0) dX11_fill_85 mk_X11_69 lc_0 (ci := 11) (q := (RX11, TX11, 11)) rfl rfl rfl rfl (by decide) (by decide) (by decide) (Or.inl rfl) (tmX11_refuse e13) ?_
      refine pr_isub dX11_fill_88 ?_
      have h := Option.some.inj h
      subst h
      exact pr_iret dX11_fill_89 rfl
    · have h := pm_ng c_11 h
      refine pr_aload_n dX11_fill_70 rfl ?_
      refine pr_getR dX11_fill_71 lk_X11_59 lc_0 rfl ?_
      refine pr_iload_n dX11_fill_74 rfl ?_
      obtain ⟨g_14, h⟩ := pm_gs h
      refine pr_iald dX11_fill_75 lc_92 rfl g_14 ?_
      refine pr_iload_n dX11_fill_76 rfl ?_
      refine pr_icmp_ge (tgt := 90) dX11_fill_77 rfl rfl (by decide) (fun c_15 => ?_) (fun c_15 => ?_)
      · have h := pm_pos c_15 h
        refine pr_aload_n dX11_fill_90 rfl ?_
        refine pr_getR dX11_fill_91 lk_X11_59 lc_0 rfl ?_
        refine pr_iload_n dX11_fill_94 rfl ?_
        refine pr_dup2 dX11_fill_95 rfl rfl ?_
        obtain ⟨g_16, h⟩ := pm_gs h
        refine pr_iald dX11_fill_96 lc_92 rfl g_16 ?_
        refine pr_iload_n dX11_fill_97 rfl ?_
        refine pr_isub dX11_fill_98 ?_
        obtain ⟨g_17, h⟩ := pm_gs h
        refine pr_iast dX11_fill_99 lc_92 rfl g_17 ?_
        refine pr_aload_n dX11_fill_100 rfl ?_
        refine pr_getR dX11_fill_101 lk_X11_38 lc_0 rfl ?_
        refine pr_getR dX11_fill_104 lk_X11_225 lc_81 rfl ?_
        refine pr_iload_n dX11_fill_107 rfl ?_
        refine pr_aload_n dX11_fill_108 rfl ?_
        refine pr_getR dX11_fill_109 lk_X11_28 lc_0 rfl ?_
        refine pr_getI dX11_fill_112 lk_X11_109 lc_15 rfl ?_
        obtain ⟨g_18, h⟩ := pm_gs h
        refine pr_iast dX11_fill_115 lc_87 rfl g_18 ?_
        refine pr_aload_n dX11_fill_116 rfl ?_
        refine pr_getR dX11_fill_117 lk_X11_38 lc_0 rfl ?_
        refine pr_iload_n dX11_fill_120 rfl ?_
        refine pr_aload_n dX11_fill_121 rfl ?_
        refine pr_getR dX11_fill_122 lk_X11_28 lc_0 rfl ?_
        obtain ⟨q19, e20, h⟩ := pm_bs h
        refine pr_callV (As := []) (S := [pv_i x1, pv_r 81]) (t := 15) dX11_fill_125 mk_X11_228 lc_15 (ci := 10) (q := (RX10, TX10, 8)) rfl rfl rfl rfl (by decide) (by decide) (by decide) (Or.inl rfl) (tmX10_today (Or.inl rfl) e20) ?_
        refine pr_aload_n dX11_fill_128 rfl ?_
        refine pr_getR dX11_fill_129 lk_X11_55 lc_0 rfl ?_
        refine pr_aload_n dX11_fill_132 rfl ?_
        refine pr_getR dX11_fill_133 lk_X11_38 lc_0 rfl ?_
        refine pr_getR dX11_fill_136 lk_X11_213 lc_81 rfl ?_
        refine pr_iload_n dX11_fill_139 rfl ?_
        obtain ⟨g_21, h⟩ := pm_gs h
        refine pr_iald dX11_fill_140 lc_83 rfl g_21 ?_
        obtain ⟨g_22, h⟩ := pm_gs h
        refine pr_iald dX11_fill_141 lc_91 rfl g_22 ?_
        obtain ⟨q23, e24, h⟩ := pm_bs h
        refine pr_callV (As := [pv_i x1, pv_i q19, pv_i ((pm_up (pm_up σ 92 (Int.toNat (wr q6)) ((σ 92 (Int.toNat (wr q6))) - ((σ 84 (Int.toNat (wr x1))) * 480))) 87 (Int.toNat (wr x1)) ((pm_up σ 92 (Int.toNat (wr q6)) ((σ 92 (Int.toNat (wr q6))) - ((σ 84 (Int.toNat (wr x1))) * 480))) 15 7)) 91 (Int.toNat (wr ((pm_up (pm_up σ 92 (Int.toNat (wr q6)) ((σ 92 (Int.toNat (wr q6))) - ((σ 84 (Int.toNat (wr x1))) * 480))) 87 (Int.toNat (wr x1)) ((pm_up σ 92 (Int.toNat (wr q6)) ((σ 92 (Int.toNat (wr q6))) - ((σ 84 (Int.toNat (wr x1))) * 480))) 15 7)) 83 (Int.toNat (wr x1))))))]) (S := []) (t := 81) dX11_fill_142 mk_X11_232 lc_81 (ci := 5) (q := (RX5, TX5, 10)) rfl rfl rfl rfl (by decide) (by decide) (by decide) (Or.inl rfl) (tmX5_coinsFor e24) ?_
        refine pr_istore dX11_fill_145 (by decide) rfl ?_
        refine pr_aload_n dX11_fill_147 rfl ?_
        refine pr_dup dX11_fill_148 rfl ?_
        refine pr_getI dX11_fill_149 lk_X11_235 lc_0 rfl ?_
        refine pr_iload dX11_fill_152 rfl ?_
        refine pr_iadd dX11_fill_154 ?_
        refine pr_putI dX11_fill_155 lp_X11_235 lc_0 rfl ?_
        refine pr_iload dX11_fill_158 rfl ?_
        have h := Option.some.inj h
        subst h
        exact pr_iret dX11_fill_160 rfl
      · have h := pm_ng c_15 h
        refine pr_ldc dX11_fill_80 lkc_X11_211 ?_
        refine pr_aload_n dX11_fill_82 rfl ?_
        refine pr_bipush dX11_fill_83 (by decide) ?_
        obtain ⟨q25, e26, h⟩ := pm_bs h
        refine pr_callV (As := [pv_i (-3)]) (S := [pv_i 1000000000]) (t := 0) dX11_fill_85 mk_X11_69 lc_0 (ci := 11) (q := (RX11, TX11, 11)) rfl rfl rfl rfl (by decide) (by decide) (by decide) (Or.inl rfl) (tmX11_refuse e26) ?_
        refine pr_isub dX11_fill_88 ?_
        have h := Option.some.inj h
        subst h
        exact pr_iret dX11_fill_89 rfl
  · have h := pm_pos c_3 h
    refine pr_ldc dX11_fill_14 lkc_X11_211 ?_
    refine pr_aload_n dX11_fill_16 rfl ?_
    refine pr_iconst dX11_fill_17 ?_
    obtain ⟨q27, e28, h⟩ := pm_bs h
    refine pr_callV (As := [pv_i (-1)]) (S := [pv_i 1000000000]) (t := 0) dX11_fill_18 mk_X11_69 lc_0 (ci := 11) (q := (RX11, TX11, 11)) rfl rfl rfl rfl (by decide) (by decide) (by decide) (Or.inl rfl) (tmX11_refuse e28) ?_
    refine pr_isub dX11_fill_21 ?_
    have h := Option.some.inj h
    subst h
    exact pr_iret dX11_fill_22 rfl
def fX11_planRefusal (x1 : Int) (σ : pm_M) : Option (Int) :=
  (fX5_open σ).bind fun q1 => if (wr q1) ≤ 8 then (if 1 ≤ (wr x1) then (if (wr x1) ≤ 9600 then (some 0) else (some (-6))) else (some (-4))) else (some (-3))
set_option maxHeartbeats 4000000 in
set_option maxRecDepth 100000 in
theorem tmX11_planRefusal {x1 : Int} {σ : pm_M} {ρ : Int} (h : fX11_planRefusal x1 σ = some ρ) : pm_C mX11_planRefusal 2 43 [pv_r 0, pv_i x1] LAYC σ (some (pv_i ρ)) LAYC σ := by
  refine pm_C.of rfl rfl (by decide) ?_
  show pm_J mX11_planRefusal 2 43 LAYC (some (pv_i ρ)) LAYC σ 0 [some (pv_r 0), some (pv_i x1)] [] LAYC σ
  unfold fX11_planRefusal at h
  refine pr_aload_n dX11_planRefusal_0 rfl ?_
  refine pr_getR dX11_planRefusal_1 lk_X11_38 lc_0 rfl ?_
  obtain ⟨q1, e2, h⟩ := pm_bs h
  refine pr_callV (As := []) (S := []) (t := 81) dX11_planRefusal_4 mk_X11_355 lc_81 (ci := 5) (q := (RX5, TX5, 10)) rfl rfl rfl rfl (by decide) (by decide) (by decide) (Or.inl rfl) (tmX5_open e2) ?_
  refine pr_bipush dX11_planRefusal_7 (by decide) ?_
  refine pr_icmp_le (tgt := 15) dX11_planRefusal_9 rfl (wr_eq (by decide) (by decide)) (by decide) (fun c_3 => ?_) (fun c_3 => ?_)
  · have h := pm_pos c_3 h
    refine pr_iload_n dX11_planRefusal_15 rfl ?_
    refine pr_iconst dX11_planRefusal_16 ?_
    refine pr_icmp_ge (tgt := 23) dX11_planRefusal_17 rfl (wr_eq (by decide) (by decide)) (by decide) (fun c_4 => ?_) (fun c_4 => ?_)
    · have h := pm_pos c_4 h
      refine pr_iload_n dX11_planRefusal_23 rfl ?_
      refine pr_sipush dX11_planRefusal_24 (by decide) ?_
      refine pr_icmp_le (tgt := 35) dX11_planRefusal_27 rfl (wr_eq (by decide) (by decide)) (by decide) (fun c_5 => ?_) (fun c_5 => ?_)
      · have h := pm_pos c_5 h
        refine pr_iconst dX11_planRefusal_35 ?_
        have h := Option.some.inj h
        subst h
        exact pr_iret dX11_planRefusal_36 rfl
      · have h := pm_ng c_5 h
        refine pr_bipush dX11_planRefusal_30 (by decide) ?_
        refine pr_goto (tgt := 36) dX11_planRefusal_32 (by decide) ?_
        have h := Option.some.inj h
        subst h
        exact pr_iret dX11_planRefusal_36 rfl
    · have h := pm_ng c_4 h
      refine pr_bipush dX11_planRefusal_20 (by decide) ?_
      have h := Option.some.inj h
      subst h
      exact pr_iret dX11_planRefusal_22 rfl
  · have h := pm_ng c_3 h
    refine pr_bipush dX11_planRefusal_12 (by decide) ?_
    have h := Option.some.inj h
    subst h
    exact pr_iret dX11_planRefusal_14 rfl
def fX11_best (x1 : Int) (σ : pm_M) : Option (Int × pm_M) :=
  (fX11_planRefusal x1 σ).bind fun q1 => if (wr q1) = 0 then ((fX10_today 15 σ).bind fun q4 => (fX5_plan x1 (q4 + 1) σ).bind fun q6 => some ((q6 81 8), q6)) else ((fX11_refuse q1 σ).bind fun q8 => some (q8.1, q8.2))
set_option maxHeartbeats 4000000 in
set_option maxRecDepth 100000 in
theorem tmX11_best {x1 : Int} {σ : pm_M} {ρ : Int × pm_M} (h : fX11_best x1 σ = some ρ) : pm_C mX11_best 4 97 [pv_r 0, pv_i x1] LAYC σ (some (pv_i ρ.1)) LAYC ρ.2 := by
  refine pm_C.of rfl rfl (by decide) ?_
  show pm_J mX11_best 4 97 LAYC (some (pv_i ρ.1)) LAYC ρ.2 0 [some (pv_r 0), some (pv_i x1), none] [] LAYC σ
  unfold fX11_best at h
  refine pr_aload_n dX11_best_0 rfl ?_
  refine pr_iload_n dX11_best_1 rfl ?_
  obtain ⟨q1, e2, h⟩ := pm_bs h
  refine pr_callV (As := [pv_i x1]) (S := []) (t := 0) dX11_best_2 mk_X11_238 lc_0 (ci := 11) (q := (RX11, TX11, 11)) rfl rfl rfl rfl (by decide) (by decide) (by decide) (Or.inl rfl) (tmX11_planRefusal e2) ?_
  refine pr_istore_n dX11_best_5 (by decide) rfl ?_
  refine pr_iload_n dX11_best_6 rfl ?_
  refine pr_if_eq (tgt := 16) dX11_best_7 rfl (by decide) (fun c_3 => ?_) (fun c_3 => ?_)
  · have h := pm_pos c_3 h
    refine pr_aload_n dX11_best_16 rfl ?_
    refine pr_getR dX11_best_17 lk_X11_38 lc_0 rfl ?_
    refine pr_iload_n dX11_best_20 rfl ?_
    refine pr_aload_n dX11_best_21 rfl ?_
    refine pr_getR dX11_best_22 lk_X11_28 lc_0 rfl ?_
    obtain ⟨q4, e5, h⟩ := pm_bs h
    refine pr_callV (As := []) (S := [pv_i x1, pv_r 81]) (t := 15) dX11_best_25 mk_X11_228 lc_15 (ci := 10) (q := (RX10, TX10, 8)) rfl rfl rfl rfl (by decide) (by decide) (by decide) (Or.inl rfl) (tmX10_today (Or.inl rfl) e5) ?_
    refine pr_iconst dX11_best_28 ?_
    refine pr_iadd dX11_best_29 ?_
    obtain ⟨q6, e7, h⟩ := pm_bs h
    refine pr_callV (As := [pv_i x1, pv_i (q4 + 1)]) (S := []) (t := 81) dX11_best_30 mk_X11_241 lc_81 (ci := 5) (q := (RX5, TX5, 10)) rfl rfl rfl rfl (by decide) (by decide) (by decide) (Or.inl rfl) (tmX5_plan e7) ?_
    refine pr_aload_n dX11_best_33 rfl ?_
    refine pr_getR dX11_best_34 lk_X11_38 lc_0 rfl ?_
    refine pr_getI dX11_best_37 lk_X11_245 lc_81 rfl ?_
    have h := Option.some.inj h
    subst h
    exact pr_iret dX11_best_40 rfl
  · have h := pm_ng c_3 h
    refine pr_aload_n dX11_best_10 rfl ?_
    refine pr_iload_n dX11_best_11 rfl ?_
    obtain ⟨q8, e9, h⟩ := pm_bs h
    refine pr_callV (As := [pv_i q1]) (S := []) (t := 0) dX11_best_12 mk_X11_69 lc_0 (ci := 11) (q := (RX11, TX11, 11)) rfl rfl rfl rfl (by decide) (by decide) (by decide) (Or.inl rfl) (tmX11_refuse e9) ?_
    have h := Option.some.inj h
    subst h
    exact pr_iret dX11_best_15 rfl
def fX11_bestWorth (x1 : Int) (σ : pm_M) : Option (Int × pm_M) :=
  (fX11_planRefusal x1 σ).bind fun q1 => if (wr q1) = 0 then ((fX10_today 15 σ).bind fun q4 => (fX5_plan x1 (q4 + 1) σ).bind fun q6 => some ((q6 81 9), q6)) else ((fX11_refuse q1 σ).bind fun q8 => some (q8.1, q8.2))
set_option maxHeartbeats 4000000 in
set_option maxRecDepth 100000 in
theorem tmX11_bestWorth {x1 : Int} {σ : pm_M} {ρ : Int × pm_M} (h : fX11_bestWorth x1 σ = some ρ) : pm_C mX11_bestWorth 4 97 [pv_r 0, pv_i x1] LAYC σ (some (pv_i ρ.1)) LAYC ρ.2 := by
  refine pm_C.of rfl rfl (by decide) ?_
  show pm_J mX11_bestWorth 4 97 LAYC (some (pv_i ρ.1)) LAYC ρ.2 0 [some (pv_r 0), some (pv_i x1), none] [] LAYC σ
  unfold fX11_bestWorth at h
  refine pr_aload_n dX11_bestWorth_0 rfl ?_
  refine pr_iload_n dX11_bestWorth_1 rfl ?_
  obtain ⟨q1, e2, h⟩ := pm_bs h
  refine pr_callV (As := [pv_i x1]) (S := []) (t := 0) dX11_bestWorth_2 mk_X11_238 lc_0 (ci := 11) (q := (RX11, TX11, 11)) rfl rfl rfl rfl (by decide) (by decide) (by decide) (Or.inl rfl) (tmX11_planRefusal e2) ?_
  refine pr_istore_n dX11_bestWorth_5 (by decide) rfl ?_
  refine pr_iload_n dX11_bestWorth_6 rfl ?_
  refine pr_if_eq (tgt := 16) dX11_bestWorth_7 rfl (by decide) (fun c_3 => ?_) (fun c_3 => ?_)
  · have h := pm_pos c_3 h
    refine pr_aload_n dX11_bestWorth_16 rfl ?_
    refine pr_getR dX11_bestWorth_17 lk_X11_38 lc_0 rfl ?_
    refine pr_iload_n dX11_bestWorth_20 rfl ?_
    refine pr_aload_n dX11_bestWorth_21 rfl ?_
    refine pr_getR dX11_bestWorth_22 lk_X11_28 lc_0 rfl ?_
    obtain ⟨q4, e5, h⟩ := pm_bs h
    refine pr_callV (As := []) (S := [pv_i x1, pv_r 81]) (t := 15) dX11_bestWorth_25 mk_X11_228 lc_15 (ci := 10) (q := (RX10, TX10, 8)) rfl rfl rfl rfl (by decide) (by decide) (by decide) (Or.inl rfl) (tmX10_today (Or.inl rfl) e5) ?_
    refine pr_iconst dX11_bestWorth_28 ?_
    refine pr_iadd dX11_bestWorth_29 ?_
    obtain ⟨q6, e7, h⟩ := pm_bs h
    refine pr_callV (As := [pv_i x1, pv_i (q4 + 1)]) (S := []) (t := 81) dX11_bestWorth_30 mk_X11_241 lc_81 (ci := 5) (q := (RX5, TX5, 10)) rfl rfl rfl rfl (by decide) (by decide) (by decide) (Or.inl rfl) (tmX5_plan e7) ?_
    refine pr_aload_n dX11_bestWorth_33 rfl ?_
    refine pr_getR dX11_bestWorth_34 lk_X11_38 lc_0 rfl ?_
    refine pr_getI dX11_bestWorth_37 lk_X11_248 lc_81 rfl ?_
    have h := Option.some.inj h
    subst h
    exact pr_iret dX11_bestWorth_40 rfl
  · have h := pm_ng c_3 h
    refine pr_aload_n dX11_bestWorth_10 rfl ?_
    refine pr_iload_n dX11_bestWorth_11 rfl ?_
    obtain ⟨q8, e9, h⟩ := pm_bs h
    refine pr_callV (As := [pv_i q1]) (S := []) (t := 0) dX11_bestWorth_12 mk_X11_69 lc_0 (ci := 11) (q := (RX11, TX11, 11)) rfl rfl rfl rfl (by decide) (by decide) (by decide) (Or.inl rfl) (tmX11_refuse e9) ?_
    have h := Option.some.inj h
    subst h
    exact pr_iret dX11_bestWorth_15 rfl
def fX11_hours (x1 : Int) (σ : pm_M) : Option (Int × pm_M) :=
  if 1 ≤ (wr x1) then (if (wr x1) ≤ (wr (2400 - (σ 15 7))) then ((fX10_pass 15 x1 σ).bind fun q3 => some (((q3 26 8) - (σ 26 8)), q3)) else ((fX11_refuse (-6) σ).bind fun q5 => some (q5.1, q5.2))) else ((fX11_refuse (-4) σ).bind fun q7 => some (q7.1, q7.2))
set_option maxHeartbeats 4000000 in
set_option maxRecDepth 100000 in
theorem tmX11_hours {x1 : Int} {σ : pm_M} {ρ : Int × pm_M} (h : fX11_hours x1 σ = some ρ) : pm_C mX11_hours 7 201 [pv_r 0, pv_i x1] LAYC σ (some (pv_i ρ.1)) LAYC ρ.2 := by
  refine pm_C.of rfl rfl (by decide) ?_
  show pm_J mX11_hours 7 201 LAYC (some (pv_i ρ.1)) LAYC ρ.2 0 [some (pv_r 0), some (pv_i x1), none] [] LAYC σ
  unfold fX11_hours at h
  refine pr_iload_n dX11_hours_0 rfl ?_
  refine pr_iconst dX11_hours_1 ?_
  refine pr_icmp_ge (tgt := 12) dX11_hours_2 rfl (wr_eq (by decide) (by decide)) (by decide) (fun c_1 => ?_) (fun c_1 => ?_)
  · have h := pm_pos c_1 h
    refine pr_iload_n dX11_hours_12 rfl ?_
    refine pr_sipush dX11_hours_13 (by decide) ?_
    refine pr_aload_n dX11_hours_16 rfl ?_
    refine pr_getR dX11_hours_17 lk_X11_28 lc_0 rfl ?_
    refine pr_getI dX11_hours_20 lk_X11_109 lc_15 rfl ?_
    refine pr_isub dX11_hours_23 ?_
    refine pr_icmp_le (tgt := 34) dX11_hours_24 rfl rfl (by decide) (fun c_2 => ?_) (fun c_2 => ?_)
    · have h := pm_pos c_2 h
      refine pr_aload_n dX11_hours_34 rfl ?_
      refine pr_getR dX11_hours_35 lk_X11_28 lc_0 rfl ?_
      refine pr_getR dX11_hours_38 lk_X11_44 lc_15 rfl ?_
      refine pr_getI dX11_hours_41 lk_X11_193 lc_26 rfl ?_
      refine pr_istore_n dX11_hours_44 (by decide) rfl ?_
      refine pr_aload_n dX11_hours_45 rfl ?_
      refine pr_getR dX11_hours_46 lk_X11_28 lc_0 rfl ?_
      refine pr_iload_n dX11_hours_49 rfl ?_
      obtain ⟨q3, e4, h⟩ := pm_bs h
      refine pr_callV (As := [pv_i x1]) (S := []) (t := 15) dX11_hours_50 mk_X11_251 lc_15 (ci := 10) (q := (RX10, TX10, 8)) rfl rfl rfl rfl (by decide) (by decide) (by decide) (Or.inl rfl) (tmX10_pass (Or.inl rfl) e4) ?_
      refine pr_aload_n dX11_hours_53 rfl ?_
      refine pr_getR dX11_hours_54 lk_X11_28 lc_0 rfl ?_
      refine pr_getR dX11_hours_57 lk_X11_44 lc_15 rfl ?_
      refine pr_getI dX11_hours_60 lk_X11_193 lc_26 rfl ?_
      refine pr_iload_n dX11_hours_63 rfl ?_
      refine pr_isub dX11_hours_64 ?_
      have h := Option.some.inj h
      subst h
      exact pr_iret dX11_hours_65 rfl
    · have h := pm_ng c_2 h
      refine pr_aload_n dX11_hours_27 rfl ?_
      refine pr_bipush dX11_hours_28 (by decide) ?_
      obtain ⟨q5, e6, h⟩ := pm_bs h
      refine pr_callV (As := [pv_i (-6)]) (S := []) (t := 0) dX11_hours_30 mk_X11_69 lc_0 (ci := 11) (q := (RX11, TX11, 11)) rfl rfl rfl rfl (by decide) (by decide) (by decide) (Or.inl rfl) (tmX11_refuse e6) ?_
      have h := Option.some.inj h
      subst h
      exact pr_iret dX11_hours_33 rfl
  · have h := pm_ng c_1 h
    refine pr_aload_n dX11_hours_5 rfl ?_
    refine pr_bipush dX11_hours_6 (by decide) ?_
    obtain ⟨q7, e8, h⟩ := pm_bs h
    refine pr_callV (As := [pv_i (-4)]) (S := []) (t := 0) dX11_hours_8 mk_X11_69 lc_0 (ci := 11) (q := (RX11, TX11, 11)) rfl rfl rfl rfl (by decide) (by decide) (by decide) (Or.inl rfl) (tmX11_refuse e8) ?_
    have h := Option.some.inj h
    subst h
    exact pr_iret dX11_hours_11 rfl
def fX11_foretell (x1 : Int) (x2 : Int) (σ : pm_M) : Option (Int × pm_M) :=
  (fX11_isNumber x2 5).bind fun q1 => if (wr q1) = 0 then ((fX11_refuse (-2) σ).bind fun q20 => some (q20.1, q20.2)) else (if 1 ≤ (wr x1) then (if 240 < (wr x1) then ((fX11_refuse (-6) σ).bind fun q6 => some (q6.1, q6.2)) else (if (wr x1) ≤ (wr (2400 - (σ 15 7))) then ((fX10_become σ).bind fun q9 => (fX10_pass 48 x1 q9).bind fun q11 => if (wr x2) = 0 then (some ((q11 59 8), q11)) else (if (wr x2) = 1 then (some ((q11 59 10), q11)) else (if (wr x2) = 2 then (some ((q11 70 8), q11)) else (if (wr x2) = 3 then (some ((q11 76 6), q11)) else ((fX10_pulpOfAll 48 q11).bind fun q13 => some (q13, q11)))))) else ((fX11_refuse (-6) σ).bind fun q16 => some (q16.1, q16.2)))) else ((fX11_refuse (-4) σ).bind fun q18 => some (q18.1, q18.2)))
set_option maxHeartbeats 4000000 in
set_option maxRecDepth 100000 in
theorem tmX11_foretell {x1 : Int} {x2 : Int} {σ : pm_M} {ρ : Int × pm_M} (h : fX11_foretell x1 x2 σ = some ρ) : pm_C mX11_foretell 7 201 [pv_r 0, pv_i x1, pv_i x2] LAYC σ (some (pv_i ρ.1)) LAYC ρ.2 := by
  refine pm_C.of rfl rfl (by decide) ?_
  show pm_J mX11_foretell 7 201 LAYC (some (pv_i ρ.1)) LAYC ρ.2 0 [some (pv_r 0), some (pv_i x1), some (pv_i x2)] [] LAYC σ
  unfold fX11_foretell at h
  refine pr_iload_n dX11_foretell_0 rfl ?_
  refine pr_iconst dX11_foretell_1 ?_
  obtain ⟨q1, e2, h⟩ := pm_bs h
  refine pr_callS (av := [pv_i x2, pv_i 5]) (S := []) dX11_foretell_2 mk_X11_65 rfl rfl (by decide) (by decide) (by decide) (Or.inl rfl) (tmX11_isNumber e2) ?_
  refine pr_if_ne (tgt := 15) dX11_foretell_5 rfl (by decide) (fun c_3 => ?_) (fun c_3 => ?_)
  · have h := pm_ng c_3 h
    refine pr_iload_n dX11_foretell_15 rfl ?_
    refine pr_iconst dX11_foretell_16 ?_
    refine pr_icmp_ge (tgt := 27) dX11_foretell_17 rfl (wr_eq (by decide) (by decide)) (by decide) (fun c_4 => ?_) (fun c_4 => ?_)
    · have h := pm_pos c_4 h
      refine pr_iload_n dX11_foretell_27 rfl ?_
      refine pr_sipush dX11_foretell_28 (by decide) ?_
      refine pr_icmp_gt (tgt := 49) dX11_foretell_31 rfl (wr_eq (by decide) (by decide)) (by decide) (fun c_5 => ?_) (fun c_5 => ?_)
      · have h := pm_pos c_5 h
        refine pr_aload_n dX11_foretell_49 rfl ?_
        refine pr_bipush dX11_foretell_50 (by decide) ?_
        obtain ⟨q6, e7, h⟩ := pm_bs h
        refine pr_callV (As := [pv_i (-6)]) (S := []) (t := 0) dX11_foretell_52 mk_X11_69 lc_0 (ci := 11) (q := (RX11, TX11, 11)) rfl rfl rfl rfl (by decide) (by decide) (by decide) (Or.inl rfl) (tmX11_refuse e7) ?_
        have h := Option.some.inj h
        subst h
        exact pr_iret dX11_foretell_55 rfl
      · have h := pm_ng c_5 h
        refine pr_iload_n dX11_foretell_34 rfl ?_
        refine pr_sipush dX11_foretell_35 (by decide) ?_
        refine pr_aload_n dX11_foretell_38 rfl ?_
        refine pr_getR dX11_foretell_39 lk_X11_28 lc_0 rfl ?_
        refine pr_getI dX11_foretell_42 lk_X11_109 lc_15 rfl ?_
        refine pr_isub dX11_foretell_45 ?_
        refine pr_icmp_le (tgt := 56) dX11_foretell_46 rfl rfl (by decide) (fun c_8 => ?_) (fun c_8 => ?_)
        · have h := pm_pos c_8 h
          refine pr_aload_n dX11_foretell_56 rfl ?_
          refine pr_getR dX11_foretell_57 lk_X11_32 lc_0 rfl ?_
          refine pr_aload_n dX11_foretell_60 rfl ?_
          refine pr_getR dX11_foretell_61 lk_X11_28 lc_0 rfl ?_
          obtain ⟨q9, e10, h⟩ := pm_bs h
          refine pr_callV (As := [pv_r 15]) (S := []) (t := 48) dX11_foretell_64 mk_X11_255 lc_48 (ci := 10) (q := (RX10, TX10, 8)) rfl rfl rfl rfl (by decide) (by decide) (by decide) (Or.inl rfl) (tmX10_become e10) ?_
          refine pr_aload_n dX11_foretell_67 rfl ?_
          refine pr_getR dX11_foretell_68 lk_X11_32 lc_0 rfl ?_
          refine pr_iload_n dX11_foretell_71 rfl ?_
          obtain ⟨q11, e12, h⟩ := pm_bs h
          refine pr_callV (As := [pv_i x1]) (S := []) (t := 48) dX11_foretell_72 mk_X11_251 lc_48 (ci := 10) (q := (RX10, TX10, 8)) rfl rfl rfl rfl (by decide) (by decide) (by decide) (Or.inl rfl) (tmX10_pass (Or.inr rfl) e12) ?_
          refine pr_iload_n dX11_foretell_75 rfl ?_
          by_cases c_15_0 : (wr x2) = 0
          · have h := pm_pos c_15_0 h
            refine pr_tsIn (j := 0) (tgt := 108) dX11_foretell_76 rfl (c_15_0.trans (by decide)) (by decide) rfl (by decide) ?_
            refine pr_aload_n dX11_foretell_108 rfl ?_
            refine pr_getR dX11_foretell_109 lk_X11_32 lc_0 rfl ?_
            refine pr_getR dX11_foretell_112 lk_X11_44 lc_48 rfl ?_
            refine pr_getI dX11_foretell_115 lk_X11_193 lc_59 rfl ?_
            have h := Option.some.inj h
            subst h
            exact pr_iret dX11_foretell_118 rfl
          · have h := pm_ng c_15_0 h
            by_cases c_15_1 : (wr x2) = 1
            · have h := pm_pos c_15_1 h
              refine pr_tsIn (j := 1) (tgt := 119) dX11_foretell_76 rfl (c_15_1.trans (by decide)) (by decide) rfl (by decide) ?_
              refine pr_aload_n dX11_foretell_119 rfl ?_
              refine pr_getR dX11_foretell_120 lk_X11_32 lc_0 rfl ?_
              refine pr_getR dX11_foretell_123 lk_X11_44 lc_48 rfl ?_
              refine pr_getI dX11_foretell_126 lk_X11_202 lc_59 rfl ?_
              have h := Option.some.inj h
              subst h
              exact pr_iret dX11_foretell_129 rfl
            · have h := pm_ng c_15_1 h
              by_cases c_15_2 : (wr x2) = 2
              · have h := pm_pos c_15_2 h
                refine pr_tsIn (j := 2) (tgt := 130) dX11_foretell_76 rfl (c_15_2.trans (by decide)) (by decide) rfl (by decide) ?_
                refine pr_aload_n dX11_foretell_130 rfl ?_
                refine pr_getR dX11_foretell_131 lk_X11_32 lc_0 rfl ?_
                refine pr_getR dX11_foretell_134 lk_X11_157 lc_48 rfl ?_
                refine pr_getI dX11_foretell_137 lk_X11_259 lc_70 rfl ?_
                have h := Option.some.inj h
                subst h
                exact pr_iret dX11_foretell_140 rfl
              · have h := pm_ng c_15_2 h
                by_cases c_15_3 : (wr x2) = 3
                · have h := pm_pos c_15_3 h
                  refine pr_tsIn (j := 3) (tgt := 141) dX11_foretell_76 rfl (c_15_3.trans (by decide)) (by decide) rfl (by decide) ?_
                  refine pr_aload_n dX11_foretell_141 rfl ?_
                  refine pr_getR dX11_foretell_142 lk_X11_32 lc_0 rfl ?_
                  refine pr_getR dX11_foretell_145 lk_X11_99 lc_48 rfl ?_
                  refine pr_getI dX11_foretell_148 lk_X11_262 lc_76 rfl ?_
                  have h := Option.some.inj h
                  subst h
                  exact pr_iret dX11_foretell_151 rfl
                · have h := pm_ng c_15_3 h
                  refine pr_tsOut (tgt := 152) dX11_foretell_76 rfl (by omega) (by decide) ?_
                  refine pr_aload_n dX11_foretell_152 rfl ?_
                  refine pr_getR dX11_foretell_153 lk_X11_32 lc_0 rfl ?_
                  obtain ⟨q13, e14, h⟩ := pm_bs h
                  refine pr_callV (As := []) (S := []) (t := 48) dX11_foretell_156 mk_X11_265 lc_48 (ci := 10) (q := (RX10, TX10, 8)) rfl rfl rfl rfl (by decide) (by decide) (by decide) (Or.inl rfl) (tmX10_pulpOfAll (Or.inr rfl) e14) ?_
                  have h := Option.some.inj h
                  subst h
                  exact pr_iret dX11_foretell_159 rfl
        · have h := pm_ng c_8 h
          refine pr_aload_n dX11_foretell_49 rfl ?_
          refine pr_bipush dX11_foretell_50 (by decide) ?_
          obtain ⟨q16, e17, h⟩ := pm_bs h
          refine pr_callV (As := [pv_i (-6)]) (S := []) (t := 0) dX11_foretell_52 mk_X11_69 lc_0 (ci := 11) (q := (RX11, TX11, 11)) rfl rfl rfl rfl (by decide) (by decide) (by decide) (Or.inl rfl) (tmX11_refuse e17) ?_
          have h := Option.some.inj h
          subst h
          exact pr_iret dX11_foretell_55 rfl
    · have h := pm_ng c_4 h
      refine pr_aload_n dX11_foretell_20 rfl ?_
      refine pr_bipush dX11_foretell_21 (by decide) ?_
      obtain ⟨q18, e19, h⟩ := pm_bs h
      refine pr_callV (As := [pv_i (-4)]) (S := []) (t := 0) dX11_foretell_23 mk_X11_69 lc_0 (ci := 11) (q := (RX11, TX11, 11)) rfl rfl rfl rfl (by decide) (by decide) (by decide) (Or.inl rfl) (tmX11_refuse e19) ?_
      have h := Option.some.inj h
      subst h
      exact pr_iret dX11_foretell_26 rfl
  · have h := pm_pos c_3 h
    refine pr_aload_n dX11_foretell_8 rfl ?_
    refine pr_bipush dX11_foretell_9 (by decide) ?_
    obtain ⟨q20, e21, h⟩ := pm_bs h
    refine pr_callV (As := [pv_i (-2)]) (S := []) (t := 0) dX11_foretell_11 mk_X11_69 lc_0 (ci := 11) (q := (RX11, TX11, 11)) rfl rfl rfl rfl (by decide) (by decide) (by decide) (Or.inl rfl) (tmX11_refuse e21) ?_
    have h := Option.some.inj h
    subst h
    exact pr_iret dX11_foretell_14 rfl
def bdX11_when_55 (y1 : Int) (y3 : Int) (z2 : Int) (σ : pm_M) : Option ((Int × pm_M) ⊕ (Int × pm_M)) :=
  if (wr y3) ≤ (wr z2) then (some (.inl (z2, σ))) else (if (wr y1) ≤ (wr (σ 59 10)) then (some (.inl (z2, σ))) else ((fX10_pass 48 1 σ).bind fun q9 => some (.inr ((z2 + 1), q9))))
set_option maxHeartbeats 4000000 in
set_option maxRecDepth 100000 in
theorem tbX11_when_55 {lay0 lay' : List pm_S} {r : Option pm_V} {σ' : pm_M} (y1 : Int) (y3 : Int) : ∀ (a : Int × pm_M) (e : (Int × pm_M) ⊕ (Int × pm_M)), (fun a => bdX11_when_55 y1 y3 a.1 a.2) a = some e → (∀ a, e = .inr a → (fun a => pm_J mX11_when 7 201 lay0 r lay' σ' 55 [some (pv_r 0), some (pv_i y1), some (pv_i a.1), some (pv_i y3)] [] LAYC a.2) a) → (∀ a, e = .inl a → (fun a => pm_J mX11_when 7 201 lay0 r lay' σ' 88 [some (pv_r 0), some (pv_i y1), some (pv_i a.1), none] [] LAYC a.2) a) → (fun a => pm_J mX11_when 7 201 lay0 r lay' σ' 55 [some (pv_r 0), some (pv_i y1), some (pv_i a.1), some (pv_i y3)] [] LAYC a.2) a := by
  intro a e h hc hx
  obtain ⟨z2, σ⟩ := a
  have h : bdX11_when_55 y1 y3 z2 σ = some e := h
  unfold bdX11_when_55 at h
  show pm_J mX11_when 7 201 lay0 r lay' σ' 55 [some (pv_r 0), some (pv_i y1), some (pv_i z2), some (pv_i y3)] [] LAYC σ
  refine pr_iload_n dX11_when_55 rfl ?_
  refine pr_iload_n dX11_when_56 rfl ?_
  refine pr_icmp_ge (tgt := 88) dX11_when_57 rfl rfl (by decide) (fun c_7 => ?_) (fun c_7 => ?_)
  · have h := pm_pos c_7 h
    refine pr_weak (L2 := [some (pv_r 0), some (pv_i y1), some (pv_i z2), none]) ⟨Or.inr rfl, Or.inr rfl, Or.inr rfl, Or.inl rfl, trivial⟩ ?_
    exact hx _ (Option.some.inj h).symm
  · have h := pm_ng c_7 h
    refine pr_aload_n dX11_when_60 rfl ?_
    refine pr_getR dX11_when_61 lk_X11_32 lc_0 rfl ?_
    refine pr_getR dX11_when_64 lk_X11_44 lc_48 rfl ?_
    refine pr_getI dX11_when_67 lk_X11_202 lc_59 rfl ?_
    refine pr_iload_n dX11_when_70 rfl ?_
    refine pr_icmp_ge (tgt := 88) dX11_when_71 rfl rfl (by decide) (fun c_8 => ?_) (fun c_8 => ?_)
    · have h := pm_pos c_8 h
      refine pr_weak (L2 := [some (pv_r 0), some (pv_i y1), some (pv_i z2), none]) ⟨Or.inr rfl, Or.inr rfl, Or.inr rfl, Or.inl rfl, trivial⟩ ?_
      exact hx _ (Option.some.inj h).symm
    · have h := pm_ng c_8 h
      refine pr_aload_n dX11_when_74 rfl ?_
      refine pr_getR dX11_when_75 lk_X11_32 lc_0 rfl ?_
      refine pr_iconst dX11_when_78 ?_
      obtain ⟨q9, e10, h⟩ := pm_bs h
      refine pr_callV (As := [pv_i 1]) (S := []) (t := 48) dX11_when_79 mk_X11_251 lc_48 (ci := 10) (q := (RX10, TX10, 8)) rfl rfl rfl rfl (by decide) (by decide) (by decide) (Or.inl rfl) (tmX10_pass (Or.inr rfl) e10) ?_
      refine pr_iinc dX11_when_82 rfl (by decide) rfl ?_
      refine pr_goto (tgt := 55) dX11_when_85 (by decide) ?_
      refine pr_weak (L2 := [some (pv_r 0), some (pv_i y1), some (pv_i (z2 + 1)), some (pv_i y3)]) ⟨Or.inr rfl, Or.inr rfl, Or.inr rfl, Or.inr rfl, trivial⟩ ?_
      exact hc _ (Option.some.inj h).symm
def jnX11_when_88 (w1 : Int) (w2 : Int) (σ : pm_M) : Option (Int × pm_M) :=
  if (wr (σ 59 10)) < (wr w1) then (some ((-9), σ)) else (some (w2, σ))
set_option maxHeartbeats 4000000 in
set_option maxRecDepth 100000 in
theorem tjX11_when_88 {lay0 : List pm_S} {w1 : Int} {w2 : Int} {σ : pm_M} {ρ : Int × pm_M} (h : jnX11_when_88 w1 w2 σ = some ρ) : pm_J mX11_when 7 201 lay0 (some (pv_i ρ.1)) LAYC ρ.2 88 [some (pv_r 0), some (pv_i w1), some (pv_i w2), none] [] LAYC σ := by
  unfold jnX11_when_88 at h
  refine pr_aload_n dX11_when_88 rfl ?_
  refine pr_getR dX11_when_89 lk_X11_32 lc_0 rfl ?_
  refine pr_getR dX11_when_92 lk_X11_44 lc_48 rfl ?_
  refine pr_getI dX11_when_95 lk_X11_202 lc_59 rfl ?_
  refine pr_iload_n dX11_when_98 rfl ?_
  refine pr_icmp_lt (tgt := 106) dX11_when_99 rfl rfl (by decide) (fun c_13 => ?_) (fun c_13 => ?_)
  · have h := pm_pos c_13 h
    refine pr_bipush dX11_when_106 (by decide) ?_
    have h := Option.some.inj h
    subst h
    exact pr_iret dX11_when_108 rfl
  · have h := pm_ng c_13 h
    refine pr_iload_n dX11_when_102 rfl ?_
    refine pr_goto (tgt := 108) dX11_when_103 (by decide) ?_
    have h := Option.some.inj h
    subst h
    exact pr_iret dX11_when_108 rfl
def fX11_when (x1 : Int) (σ : pm_M) : Option (Int × pm_M) :=
  if 0 ≤ (wr x1) then (if (wr x1) ≤ 80 then ((fX10_become σ).bind fun q3 => (fJ9_min_7cf53 ((q3 15 7) + 240) 2400).bind fun q5 => (pm_it (fun a => bdX11_when_55 x1 q5 a.1 a.2) pm_fuel ((q3 15 7), q3)).bind fun v11 => jnX11_when_88 x1 v11.1 v11.2) else ((fX11_refuse (-6) σ).bind fun q14 => some (q14.1, q14.2))) else ((fX11_refuse (-4) σ).bind fun q16 => some (q16.1, q16.2))
set_option maxHeartbeats 4000000 in
set_option maxRecDepth 100000 in
theorem tmX11_when {x1 : Int} {σ : pm_M} {ρ : Int × pm_M} (h : fX11_when x1 σ = some ρ) : pm_C mX11_when 7 201 [pv_r 0, pv_i x1] LAYC σ (some (pv_i ρ.1)) LAYC ρ.2 := by
  refine pm_C.of rfl rfl (by decide) ?_
  show pm_J mX11_when 7 201 LAYC (some (pv_i ρ.1)) LAYC ρ.2 0 [some (pv_r 0), some (pv_i x1), none, none] [] LAYC σ
  unfold fX11_when at h
  refine pr_iload_n dX11_when_0 rfl ?_
  refine pr_if_ge (tgt := 11) dX11_when_1 rfl (by decide) (fun c_1 => ?_) (fun c_1 => ?_)
  · have h := pm_pos c_1 h
    refine pr_iload_n dX11_when_11 rfl ?_
    refine pr_bipush dX11_when_12 (by decide) ?_
    refine pr_icmp_le (tgt := 24) dX11_when_14 rfl (wr_eq (by decide) (by decide)) (by decide) (fun c_2 => ?_) (fun c_2 => ?_)
    · have h := pm_pos c_2 h
      refine pr_aload_n dX11_when_24 rfl ?_
      refine pr_getR dX11_when_25 lk_X11_32 lc_0 rfl ?_
      refine pr_aload_n dX11_when_28 rfl ?_
      refine pr_getR dX11_when_29 lk_X11_28 lc_0 rfl ?_
      obtain ⟨q3, e4, h⟩ := pm_bs h
      refine pr_callV (As := [pv_r 15]) (S := []) (t := 48) dX11_when_32 mk_X11_255 lc_48 (ci := 10) (q := (RX10, TX10, 8)) rfl rfl rfl rfl (by decide) (by decide) (by decide) (Or.inl rfl) (tmX10_become e4) ?_
      refine pr_aload_n dX11_when_35 rfl ?_
      refine pr_getR dX11_when_36 lk_X11_28 lc_0 rfl ?_
      refine pr_getI dX11_when_39 lk_X11_109 lc_15 rfl ?_
      refine pr_istore_n dX11_when_42 (by decide) rfl ?_
      refine pr_iload_n dX11_when_43 rfl ?_
      refine pr_sipush dX11_when_44 (by decide) ?_
      refine pr_iadd dX11_when_47 ?_
      refine pr_sipush dX11_when_48 (by decide) ?_
      obtain ⟨q5, e6, h⟩ := pm_bs h
      refine pr_callS (av := [pv_i ((q3 15 7) + 240), pv_i 2400]) (S := []) dX11_when_51 mk_X11_268 rfl rfl (by decide) (by decide) (by decide) (Or.inl rfl) (tmJ9_min_7cf53 e6) ?_
      refine pr_istore_n dX11_when_54 (by decide) rfl ?_
      obtain ⟨v11, e12, h⟩ := pm_bs h
      refine pr_weak (L2 := [some (pv_r 0), some (pv_i x1), some (pv_i (q3 15 7)), some (pv_i q5)]) ⟨Or.inr rfl, Or.inr rfl, Or.inr rfl, Or.inr rfl, trivial⟩ ?_
      refine pm_it_J (P := fun a => pm_J mX11_when 7 201 LAYC (some (pv_i ρ.1)) LAYC ρ.2 55 [some (pv_r 0), some (pv_i x1), some (pv_i a.1), some (pv_i q5)] [] LAYC a.2) (Rx := fun a => pm_J mX11_when 7 201 LAYC (some (pv_i ρ.1)) LAYC ρ.2 88 [some (pv_r 0), some (pv_i x1), some (pv_i a.1), none] [] LAYC a.2) (tbX11_when_55 x1 q5) _ _ _ e12 ?_
      show pm_J mX11_when 7 201 LAYC (some (pv_i ρ.1)) LAYC ρ.2 88 [some (pv_r 0), some (pv_i x1), some (pv_i v11.1), none] [] LAYC v11.2
      refine pr_weak (L2 := [some (pv_r 0), some (pv_i x1), some (pv_i v11.1), none]) ⟨Or.inr rfl, Or.inr rfl, Or.inr rfl, Or.inl rfl, trivial⟩ ?_
      exact tjX11_when_88 h
    · have h := pm_ng c_2 h
      refine pr_aload_n dX11_when_17 rfl ?_
      refine pr_bipush dX11_when_18 (by decide) ?_
      obtain ⟨q14, e15, h⟩ := pm_bs h
      refine pr_callV (As := [pv_i (-6)]) (S := []) (t := 0) dX11_when_20 mk_X11_69 lc_0 (ci := 11) (q := (RX11, TX11, 11)) rfl rfl rfl rfl (by decide) (by decide) (by decide) (Or.inl rfl) (tmX11_refuse e15) ?_
      have h := Option.some.inj h
      subst h
      exact pr_iret dX11_when_23 rfl
  · have h := pm_ng c_1 h
    refine pr_aload_n dX11_when_4 rfl ?_
    refine pr_bipush dX11_when_5 (by decide) ?_
    obtain ⟨q16, e17, h⟩ := pm_bs h
    refine pr_callV (As := [pv_i (-4)]) (S := []) (t := 0) dX11_when_7 mk_X11_69 lc_0 (ci := 11) (q := (RX11, TX11, 11)) rfl rfl rfl rfl (by decide) (by decide) (by decide) (Or.inl rfl) (tmX11_refuse e17) ?_
    have h := Option.some.inj h
    subst h
    exact pr_iret dX11_when_10 rfl
def fX11_mark (x1 : Int) (x2 : Int) (x3 : Int) (σ : pm_M) : Option (Int × pm_M) :=
  (fX11_isNumber x1 (σ 26 8)).bind fun q1 => if (wr q1) = 0 then ((fX11_refuse (-1) σ).bind fun q16 => some (q16.1, q16.2)) else ((fX11_isNumber x2 60).bind fun q4 => if (wr q4) = 0 then ((fX11_refuse (-1) σ).bind fun q7 => some (q7.1, q7.2)) else ((fX11_isNumber x3 6).bind fun q9 => if (wr q9) = 0 then ((fX11_refuse (-1) σ).bind fun q14 => some (q14.1, q14.2)) else ((fX2_markOf 15 x1 x2 x3 σ).bind fun q12 => some (q12, σ))))
set_option maxHeartbeats 4000000 in
set_option maxRecDepth 100000 in
theorem tmX11_mark {x1 : Int} {x2 : Int} {x3 : Int} {σ : pm_M} {ρ : Int × pm_M} (h : fX11_mark x1 x2 x3 σ = some ρ) : pm_C mX11_mark 2 47 [pv_r 0, pv_i x1, pv_i x2, pv_i x3] LAYC σ (some (pv_i ρ.1)) LAYC ρ.2 := by
  refine pm_C.of rfl rfl (by decide) ?_
  show pm_J mX11_mark 2 47 LAYC (some (pv_i ρ.1)) LAYC ρ.2 0 [some (pv_r 0), some (pv_i x1), some (pv_i x2), some (pv_i x3)] [] LAYC σ
  unfold fX11_mark at h
  refine pr_iload_n dX11_mark_0 rfl ?_
  refine pr_aload_n dX11_mark_1 rfl ?_
  refine pr_getR dX11_mark_2 lk_X11_28 lc_0 rfl ?_
  refine pr_getR dX11_mark_5 lk_X11_44 lc_15 rfl ?_
  refine pr_getI dX11_mark_8 lk_X11_193 lc_26 rfl ?_
  obtain ⟨q1, e2, h⟩ := pm_bs h
  refine pr_callS (av := [pv_i x1, pv_i (σ 26 8)]) (S := []) dX11_mark_11 mk_X11_65 rfl rfl (by decide) (by decide) (by decide) (Or.inl rfl) (tmX11_isNumber e2) ?_
  refine pr_if_ne (tgt := 23) dX11_mark_14 rfl (by decide) (fun c_3 => ?_) (fun c_3 => ?_)
  · have h := pm_ng c_3 h
    refine pr_iload_n dX11_mark_23 rfl ?_
    refine pr_bipush dX11_mark_24 (by decide) ?_
    obtain ⟨q4, e5, h⟩ := pm_bs h
    refine pr_callS (av := [pv_i x2, pv_i 60]) (S := []) dX11_mark_26 mk_X11_65 rfl rfl (by decide) (by decide) (by decide) (Or.inl rfl) (tmX11_isNumber e5) ?_
    refine pr_if_eq (tgt := 41) dX11_mark_29 rfl (by decide) (fun c_6 => ?_) (fun c_6 => ?_)
    · have h := pm_pos c_6 h
      refine pr_aload_n dX11_mark_41 rfl ?_
      refine pr_iconst dX11_mark_42 ?_
      obtain ⟨q7, e8, h⟩ := pm_bs h
      refine pr_callV (As := [pv_i (-1)]) (S := []) (t := 0) dX11_mark_43 mk_X11_69 lc_0 (ci := 11) (q := (RX11, TX11, 11)) rfl rfl rfl rfl (by decide) (by decide) (by decide) (Or.inl rfl) (tmX11_refuse e8) ?_
      have h := Option.some.inj h
      subst h
      exact pr_iret dX11_mark_46 rfl
    · have h := pm_ng c_6 h
      refine pr_iload_n dX11_mark_32 rfl ?_
      refine pr_bipush dX11_mark_33 (by decide) ?_
      obtain ⟨q9, e10, h⟩ := pm_bs h
      refine pr_callS (av := [pv_i x3, pv_i 6]) (S := []) dX11_mark_35 mk_X11_65 rfl rfl (by decide) (by decide) (by decide) (Or.inl rfl) (tmX11_isNumber e10) ?_
      refine pr_if_ne (tgt := 47) dX11_mark_38 rfl (by decide) (fun c_11 => ?_) (fun c_11 => ?_)
      · have h := pm_ng c_11 h
        refine pr_aload_n dX11_mark_47 rfl ?_
        refine pr_getR dX11_mark_48 lk_X11_28 lc_0 rfl ?_
        refine pr_getR dX11_mark_51 lk_X11_44 lc_15 rfl ?_
        refine pr_getR dX11_mark_54 lk_X11_273 lc_26 rfl ?_
        refine pr_iload_n dX11_mark_57 rfl ?_
        refine pr_iload_n dX11_mark_58 rfl ?_
        refine pr_iload_n dX11_mark_59 rfl ?_
        obtain ⟨q12, e13, h⟩ := pm_bs h
        refine pr_callV (As := [pv_i x1, pv_i x2, pv_i x3]) (S := []) (t := 27) dX11_mark_60 mk_X11_277 lc_27 (ci := 2) (q := (RX2, TX2, 2)) rfl rfl rfl rfl (by decide) (by decide) (by decide) (Or.inl rfl) (tmX2_markOf (Or.inl rfl) e13) ?_
        have h := Option.some.inj h
        subst h
        exact pr_iret dX11_mark_63 rfl
      · have h := pm_pos c_11 h
        refine pr_aload_n dX11_mark_41 rfl ?_
        refine pr_iconst dX11_mark_42 ?_
        obtain ⟨q14, e15, h⟩ := pm_bs h
        refine pr_callV (As := [pv_i (-1)]) (S := []) (t := 0) dX11_mark_43 mk_X11_69 lc_0 (ci := 11) (q := (RX11, TX11, 11)) rfl rfl rfl rfl (by decide) (by decide) (by decide) (Or.inl rfl) (tmX11_refuse e15) ?_
        have h := Option.some.inj h
        subst h
        exact pr_iret dX11_mark_46 rfl
  · have h := pm_pos c_3 h
    refine pr_aload_n dX11_mark_17 rfl ?_
    refine pr_iconst dX11_mark_18 ?_
    obtain ⟨q16, e17, h⟩ := pm_bs h
    refine pr_callV (As := [pv_i (-1)]) (S := []) (t := 0) dX11_mark_19 mk_X11_69 lc_0 (ci := 11) (q := (RX11, TX11, 11)) rfl rfl rfl rfl (by decide) (by decide) (by decide) (Or.inl rfl) (tmX11_refuse e17) ?_
    have h := Option.some.inj h
    subst h
    exact pr_iret dX11_mark_22 rfl
def fX11_readOld (x1 : Int) (x2 : Int) (x3 : Int) (x4 : Int) (σ : pm_M) : Option (Int × pm_M) :=
  if (wr x2) < (-1) then ((fX11_refuse (-4) σ).bind fun q2 => some (q2.1, q2.2)) else (if (wr x3) < (-1) then ((fX11_refuse (-4) σ).bind fun q5 => some (q5.1, q5.2)) else (if (-1) ≤ (wr x4) then (if 99 < (wr x2) then ((fX11_refuse (-6) σ).bind fun q9 => some (q9.1, q9.2)) else (if 99 < (wr x3) then ((fX11_refuse (-6) σ).bind fun q12 => some (q12.1, q12.2)) else (if (wr x4) ≤ 99 then (pm_g (0 ≤ (wr x1) ∧ (wr x1) < 6) (pm_g (0 ≤ (wr (x1 + 1)) ∧ (wr (x1 + 1)) < 6) (pm_g (0 ≤ (wr (x1 + 2)) ∧ (wr (x1 + 2)) < 6) (some (1, (pm_up (pm_up (pm_up σ 90 (Int.toNat (wr x1)) x2) 90 (Int.toNat (wr (x1 + 1))) x3) 90 (Int.toNat (wr (x1 + 2))) x4)))))) else ((fX11_refuse (-6) σ).bind fun q18 => some (q18.1, q18.2))))) else ((fX11_refuse (-4) σ).bind fun q20 => some (q20.1, q20.2))))
set_option maxHeartbeats 4000000 in
set_option maxRecDepth 100000 in
theorem tmX11_readOld {x1 : Int} {x2 : Int} {x3 : Int} {x4 : Int} {σ : pm_M} {ρ : Int × pm_M} (h : fX11_readOld x1 x2 x3 x4 σ = some ρ) : pm_C mX11_readOld 1 21 [pv_r 0, pv_i x1, pv_i x2, pv_i x3, pv_i x4] LAYC σ (some (pv_i ρ.1)) LAYC ρ.2 := by
  refine pm_C.of rfl rfl (by decide) ?_
  show pm_J mX11_readOld 1 21 LAYC (some (pv_i ρ.1)) LAYC ρ.2 0 [some (pv_r 0), some (pv_i x1), some (pv_i x2), some (pv_i x3), some (pv_i x4)] [] LAYC σ
  unfold fX11_readOld at h
  refine pr_iload_n dX11_readOld_0 rfl ?_
  refine pr_iconst dX11_readOld_1 ?_
  refine pr_icmp_lt (tgt := 16) dX11_readOld_2 rfl (wr_eq (by decide) (by decide)) (by decide) (fun c_1 => ?_) (fun c_1 => ?_)
  · have h := pm_pos c_1 h
    refine pr_aload_n dX11_readOld_16 rfl ?_
    refine pr_bipush dX11_readOld_17 (by decide) ?_
    obtain ⟨q2, e3, h⟩ := pm_bs h
    refine pr_callV (As := [pv_i (-4)]) (S := []) (t := 0) dX11_readOld_19 mk_X11_69 lc_0 (ci := 11) (q := (RX11, TX11, 11)) rfl rfl rfl rfl (by decide) (by decide) (by decide) (Or.inl rfl) (tmX11_refuse e3) ?_
    have h := Option.some.inj h
    subst h
    exact pr_iret dX11_readOld_22 rfl
  · have h := pm_ng c_1 h
    refine pr_iload_n dX11_readOld_5 rfl ?_
    refine pr_iconst dX11_readOld_6 ?_
    refine pr_icmp_lt (tgt := 16) dX11_readOld_7 rfl (wr_eq (by decide) (by decide)) (by decide) (fun c_4 => ?_) (fun c_4 => ?_)
    · have h := pm_pos c_4 h
      refine pr_aload_n dX11_readOld_16 rfl ?_
      refine pr_bipush dX11_readOld_17 (by decide) ?_
      obtain ⟨q5, e6, h⟩ := pm_bs h
      refine pr_callV (As := [pv_i (-4)]) (S := []) (t := 0) dX11_readOld_19 mk_X11_69 lc_0 (ci := 11) (q := (RX11, TX11, 11)) rfl rfl rfl rfl (by decide) (by decide) (by decide) (Or.inl rfl) (tmX11_refuse e6) ?_
      have h := Option.some.inj h
      subst h
      exact pr_iret dX11_readOld_22 rfl
    · have h := pm_ng c_4 h
      refine pr_iload dX11_readOld_10 rfl ?_
      refine pr_iconst dX11_readOld_12 ?_
      refine pr_icmp_ge (tgt := 23) dX11_readOld_13 rfl (wr_eq (by decide) (by decide)) (by decide) (fun c_7 => ?_) (fun c_7 => ?_)
      · have h := pm_pos c_7 h
        refine pr_iload_n dX11_readOld_23 rfl ?_
        refine pr_bipush dX11_readOld_24 (by decide) ?_
        refine pr_icmp_gt (tgt := 42) dX11_readOld_26 rfl (wr_eq (by decide) (by decide)) (by decide) (fun c_8 => ?_) (fun c_8 => ?_)
        · have h := pm_pos c_8 h
          refine pr_aload_n dX11_readOld_42 rfl ?_
          refine pr_bipush dX11_readOld_43 (by decide) ?_
          obtain ⟨q9, e10, h⟩ := pm_bs h
          refine pr_callV (As := [pv_i (-6)]) (S := []) (t := 0) dX11_readOld_45 mk_X11_69 lc_0 (ci := 11) (q := (RX11, TX11, 11)) rfl rfl rfl rfl (by decide) (by decide) (by decide) (Or.inl rfl) (tmX11_refuse e10) ?_
          have h := Option.some.inj h
          subst h
          exact pr_iret dX11_readOld_48 rfl
        · have h := pm_ng c_8 h
          refine pr_iload_n dX11_readOld_29 rfl ?_
          refine pr_bipush dX11_readOld_30 (by decide) ?_
          refine pr_icmp_gt (tgt := 42) dX11_readOld_32 rfl (wr_eq (by decide) (by decide)) (by decide) (fun c_11 => ?_) (fun c_11 => ?_)
          · have h := pm_pos c_11 h
            refine pr_aload_n dX11_readOld_42 rfl ?_
            refine pr_bipush dX11_readOld_43 (by decide) ?_
            obtain ⟨q12, e13, h⟩ := pm_bs h
            refine pr_callV (As := [pv_i (-6)]) (S := []) (t := 0) dX11_readOld_45 mk_X11_69 lc_0 (ci := 11) (q := (RX11, TX11, 11)) rfl rfl rfl rfl (by decide) (by decide) (by decide) (Or.inl rfl) (tmX11_refuse e13) ?_
            have h := Option.some.inj h
            subst h
            exact pr_iret dX11_readOld_48 rfl
          · have h := pm_ng c_11 h
            refine pr_iload dX11_readOld_35 rfl ?_
            refine pr_bipush dX11_readOld_37 (by decide) ?_
            refine pr_icmp_le (tgt := 49) dX11_readOld_39 rfl (wr_eq (by decide) (by decide)) (by decide) (fun c_14 => ?_) (fun c_14 => ?_)
            · have h := pm_pos c_14 h
              refine pr_aload_n dX11_readOld_49 rfl ?_
              refine pr_getR dX11_readOld_50 lk_X11_51 lc_0 rfl ?_
              refine pr_getR dX11_readOld_53 lk_X11_358 lc_89 rfl ?_
              refine pr_iload_n dX11_readOld_56 rfl ?_
              refine pr_iload_n dX11_readOld_57 rfl ?_
              obtain ⟨g_15, h⟩ := pm_gs h
              refine pr_iast dX11_readOld_58 lc_90 rfl g_15 ?_
              refine pr_aload_n dX11_readOld_59 rfl ?_
              refine pr_getR dX11_readOld_60 lk_X11_51 lc_0 rfl ?_
              refine pr_getR dX11_readOld_63 lk_X11_358 lc_89 rfl ?_
              refine pr_iload_n dX11_readOld_66 rfl ?_
              refine pr_iconst dX11_readOld_67 ?_
              refine pr_iadd dX11_readOld_68 ?_
              refine pr_iload_n dX11_readOld_69 rfl ?_
              obtain ⟨g_16, h⟩ := pm_gs h
              refine pr_iast dX11_readOld_70 lc_90 rfl g_16 ?_
              refine pr_aload_n dX11_readOld_71 rfl ?_
              refine pr_getR dX11_readOld_72 lk_X11_51 lc_0 rfl ?_
              refine pr_getR dX11_readOld_75 lk_X11_358 lc_89 rfl ?_
              refine pr_iload_n dX11_readOld_78 rfl ?_
              refine pr_iconst dX11_readOld_79 ?_
              refine pr_iadd dX11_readOld_80 ?_
              refine pr_iload dX11_readOld_81 rfl ?_
              obtain ⟨g_17, h⟩ := pm_gs h
              refine pr_iast dX11_readOld_83 lc_90 rfl g_17 ?_
              refine pr_iconst dX11_readOld_84 ?_
              have h := Option.some.inj h
              subst h
              exact pr_iret dX11_readOld_85 rfl
            · have h := pm_ng c_14 h
              refine pr_aload_n dX11_readOld_42 rfl ?_
              refine pr_bipush dX11_readOld_43 (by decide) ?_
              obtain ⟨q18, e19, h⟩ := pm_bs h
              refine pr_callV (As := [pv_i (-6)]) (S := []) (t := 0) dX11_readOld_45 mk_X11_69 lc_0 (ci := 11) (q := (RX11, TX11, 11)) rfl rfl rfl rfl (by decide) (by decide) (by decide) (Or.inl rfl) (tmX11_refuse e19) ?_
              have h := Option.some.inj h
              subst h
              exact pr_iret dX11_readOld_48 rfl
      · have h := pm_ng c_7 h
        refine pr_aload_n dX11_readOld_16 rfl ?_
        refine pr_bipush dX11_readOld_17 (by decide) ?_
        obtain ⟨q20, e21, h⟩ := pm_bs h
        refine pr_callV (As := [pv_i (-4)]) (S := []) (t := 0) dX11_readOld_19 mk_X11_69 lc_0 (ci := 11) (q := (RX11, TX11, 11)) rfl rfl rfl rfl (by decide) (by decide) (by decide) (Or.inl rfl) (tmX11_refuse e21) ?_
        have h := Option.some.inj h
        subst h
        exact pr_iret dX11_readOld_22 rfl
def fX11_oldA (x1 : Int) (x2 : Int) (x3 : Int) (σ : pm_M) : Option (Int × pm_M) :=
  (fX11_readOld 0 x1 x2 x3 σ).bind fun q1 => some (q1.1, q1.2)
set_option maxHeartbeats 4000000 in
set_option maxRecDepth 100000 in
theorem tmX11_oldA {x1 : Int} {x2 : Int} {x3 : Int} {σ : pm_M} {ρ : Int × pm_M} (h : fX11_oldA x1 x2 x3 σ = some ρ) : pm_C mX11_oldA 2 45 [pv_r 0, pv_i x1, pv_i x2, pv_i x3] LAYC σ (some (pv_i ρ.1)) LAYC ρ.2 := by
  refine pm_C.of rfl rfl (by decide) ?_
  show pm_J mX11_oldA 2 45 LAYC (some (pv_i ρ.1)) LAYC ρ.2 0 [some (pv_r 0), some (pv_i x1), some (pv_i x2), some (pv_i x3)] [] LAYC σ
  unfold fX11_oldA at h
  refine pr_aload_n dX11_oldA_0 rfl ?_
  refine pr_iconst dX11_oldA_1 ?_
  refine pr_iload_n dX11_oldA_2 rfl ?_
  refine pr_iload_n dX11_oldA_3 rfl ?_
  refine pr_iload_n dX11_oldA_4 rfl ?_
  obtain ⟨q1, e2, h⟩ := pm_bs h
  refine pr_callV (As := [pv_i 0, pv_i x1, pv_i x2, pv_i x3]) (S := []) (t := 0) dX11_oldA_5 mk_X11_282 lc_0 (ci := 11) (q := (RX11, TX11, 11)) rfl rfl rfl rfl (by decide) (by decide) (by decide) (Or.inl rfl) (tmX11_readOld e2) ?_
  have h := Option.some.inj h
  subst h
  exact pr_iret dX11_oldA_8 rfl
def fX11_oldB (x1 : Int) (x2 : Int) (x3 : Int) (σ : pm_M) : Option (Int × pm_M) :=
  (fX11_readOld 3 x1 x2 x3 σ).bind fun q1 => some (q1.1, q1.2)
set_option maxHeartbeats 4000000 in
set_option maxRecDepth 100000 in
theorem tmX11_oldB {x1 : Int} {x2 : Int} {x3 : Int} {σ : pm_M} {ρ : Int × pm_M} (h : fX11_oldB x1 x2 x3 σ = some ρ) : pm_C mX11_oldB 2 45 [pv_r 0, pv_i x1, pv_i x2, pv_i x3] LAYC σ (some (pv_i ρ.1)) LAYC ρ.2 := by
  refine pm_C.of rfl rfl (by decide) ?_
  show pm_J mX11_oldB 2 45 LAYC (some (pv_i ρ.1)) LAYC ρ.2 0 [some (pv_r 0), some (pv_i x1), some (pv_i x2), some (pv_i x3)] [] LAYC σ
  unfold fX11_oldB at h
  refine pr_aload_n dX11_oldB_0 rfl ?_
  refine pr_iconst dX11_oldB_1 ?_
  refine pr_iload_n dX11_oldB_2 rfl ?_
  refine pr_iload_n dX11_oldB_3 rfl ?_
  refine pr_iload_n dX11_oldB_4 rfl ?_
  obtain ⟨q1, e2, h⟩ := pm_bs h
  refine pr_callV (As := [pv_i 3, pv_i x1, pv_i x2, pv_i x3]) (S := []) (t := 0) dX11_oldB_5 mk_X11_282 lc_0 (ci := 11) (q := (RX11, TX11, 11)) rfl rfl rfl rfl (by decide) (by decide) (by decide) (Or.inl rfl) (tmX11_readOld e2) ?_
  have h := Option.some.inj h
  subst h
  exact pr_iret dX11_oldB_8 rfl
def fX11_lies (x1 : Int) (σ : pm_M) : Option (Int × pm_M) :=
  if 0 ≤ (wr x1) then (if (wr x1) ≤ 99 then ((fX4_countNear x1 σ).bind fun q3 => some (q3, σ)) else ((fX11_refuse (-6) σ).bind fun q5 => some (q5.1, q5.2))) else ((fX11_refuse (-4) σ).bind fun q7 => some (q7.1, q7.2))
set_option maxHeartbeats 4000000 in
set_option maxRecDepth 100000 in
theorem tmX11_lies {x1 : Int} {σ : pm_M} {ρ : Int × pm_M} (h : fX11_lies x1 σ = some ρ) : pm_C mX11_lies 4 94 [pv_r 0, pv_i x1] LAYC σ (some (pv_i ρ.1)) LAYC ρ.2 := by
  refine pm_C.of rfl rfl (by decide) ?_
  show pm_J mX11_lies 4 94 LAYC (some (pv_i ρ.1)) LAYC ρ.2 0 [some (pv_r 0), some (pv_i x1)] [] LAYC σ
  unfold fX11_lies at h
  refine pr_iload_n dX11_lies_0 rfl ?_
  refine pr_if_ge (tgt := 11) dX11_lies_1 rfl (by decide) (fun c_1 => ?_) (fun c_1 => ?_)
  · have h := pm_pos c_1 h
    refine pr_iload_n dX11_lies_11 rfl ?_
    refine pr_bipush dX11_lies_12 (by decide) ?_
    refine pr_icmp_le (tgt := 24) dX11_lies_14 rfl (wr_eq (by decide) (by decide)) (by decide) (fun c_2 => ?_) (fun c_2 => ?_)
    · have h := pm_pos c_2 h
      refine pr_aload_n dX11_lies_24 rfl ?_
      refine pr_getR dX11_lies_25 lk_X11_51 lc_0 rfl ?_
      refine pr_iload_n dX11_lies_28 rfl ?_
      obtain ⟨q3, e4, h⟩ := pm_bs h
      refine pr_callV (As := [pv_i x1]) (S := []) (t := 89) dX11_lies_29 mk_X11_286 lc_89 (ci := 4) (q := (RX4, TX4, 5)) rfl rfl rfl rfl (by decide) (by decide) (by decide) (Or.inl rfl) (tmX4_countNear e4) ?_
      have h := Option.some.inj h
      subst h
      exact pr_iret dX11_lies_32 rfl
    · have h := pm_ng c_2 h
      refine pr_aload_n dX11_lies_17 rfl ?_
      refine pr_bipush dX11_lies_18 (by decide) ?_
      obtain ⟨q5, e6, h⟩ := pm_bs h
      refine pr_callV (As := [pv_i (-6)]) (S := []) (t := 0) dX11_lies_20 mk_X11_69 lc_0 (ci := 11) (q := (RX11, TX11, 11)) rfl rfl rfl rfl (by decide) (by decide) (by decide) (Or.inl rfl) (tmX11_refuse e6) ?_
      have h := Option.some.inj h
      subst h
      exact pr_iret dX11_lies_23 rfl
  · have h := pm_ng c_1 h
    refine pr_aload_n dX11_lies_4 rfl ?_
    refine pr_bipush dX11_lies_5 (by decide) ?_
    obtain ⟨q7, e8, h⟩ := pm_bs h
    refine pr_callV (As := [pv_i (-4)]) (S := []) (t := 0) dX11_lies_7 mk_X11_69 lc_0 (ci := 11) (q := (RX11, TX11, 11)) rfl rfl rfl rfl (by decide) (by decide) (by decide) (Or.inl rfl) (tmX11_refuse e8) ?_
    have h := Option.some.inj h
    subst h
    exact pr_iret dX11_lies_10 rfl
def fX11_nearest (x1 : Int) (σ : pm_M) : Option (Int × pm_M) :=
  (fX11_isNumber x1 5).bind fun q1 => if (wr q1) = 0 then ((fX11_refuse (-2) σ).bind fun q10 => some (q10.1, q10.2)) else (if (wr (σ 26 8)) = 0 then (some ((-9), σ)) else ((fX4_findNearest σ).bind fun q5 => if (wr x1) = 0 then (some ((q5 89 2), q5)) else (if (wr x1) = 1 then (some ((q5 89 3), q5)) else (if (wr x1) = 2 then (pm_g (0 ≤ (wr (q5 89 2)) ∧ (wr (q5 89 2)) < 80) (some (((2 * (q5 30 (Int.toNat (wr (q5 89 2))))) + (Int.tmod (wr (q5 89 3)) 2)), q5))) else (if (wr x1) = 3 then (some ((q5 89 4), q5)) else (pm_g (0 ≤ (wr (q5 89 2)) ∧ (wr (q5 89 2)) < 80) (some ((q5 32 (Int.toNat (wr (q5 89 2)))), q5))))))))
set_option maxHeartbeats 4000000 in
set_option maxRecDepth 100000 in
theorem tmX11_nearest {x1 : Int} {σ : pm_M} {ρ : Int × pm_M} (h : fX11_nearest x1 σ = some ρ) : pm_C mX11_nearest 5 115 [pv_r 0, pv_i x1] LAYC σ (some (pv_i ρ.1)) LAYC ρ.2 := by
  refine pm_C.of rfl rfl (by decide) ?_
  show pm_J mX11_nearest 5 115 LAYC (some (pv_i ρ.1)) LAYC ρ.2 0 [some (pv_r 0), some (pv_i x1), none, none] [] LAYC σ
  unfold fX11_nearest at h
  refine pr_iload_n dX11_nearest_0 rfl ?_
  refine pr_iconst dX11_nearest_1 ?_
  obtain ⟨q1, e2, h⟩ := pm_bs h
  refine pr_callS (av := [pv_i x1, pv_i 5]) (S := []) dX11_nearest_2 mk_X11_65 rfl rfl (by decide) (by decide) (by decide) (Or.inl rfl) (tmX11_isNumber e2) ?_
  refine pr_if_ne (tgt := 15) dX11_nearest_5 rfl (by decide) (fun c_3 => ?_) (fun c_3 => ?_)
  · have h := pm_ng c_3 h
    refine pr_aload_n dX11_nearest_15 rfl ?_
    refine pr_getR dX11_nearest_16 lk_X11_28 lc_0 rfl ?_
    refine pr_getR dX11_nearest_19 lk_X11_44 lc_15 rfl ?_
    refine pr_getI dX11_nearest_22 lk_X11_193 lc_26 rfl ?_
    refine pr_if_ne (tgt := 31) dX11_nearest_25 rfl (by decide) (fun c_4 => ?_) (fun c_4 => ?_)
    · have h := pm_ng c_4 h
      refine pr_aload_n dX11_nearest_31 rfl ?_
      refine pr_getR dX11_nearest_32 lk_X11_51 lc_0 rfl ?_
      obtain ⟨q5, e6, h⟩ := pm_bs h
      refine pr_callV (As := []) (S := []) (t := 89) dX11_nearest_35 mk_X11_289 lc_89 (ci := 4) (q := (RX4, TX4, 5)) rfl rfl rfl rfl (by decide) (by decide) (by decide) (Or.inl rfl) (tmX4_findNearest e6) ?_
      refine pr_aload_n dX11_nearest_38 rfl ?_
      refine pr_getR dX11_nearest_39 lk_X11_51 lc_0 rfl ?_
      refine pr_getI dX11_nearest_42 lk_X11_292 lc_89 rfl ?_
      refine pr_istore_n dX11_nearest_45 (by decide) rfl ?_
      refine pr_aload_n dX11_nearest_46 rfl ?_
      refine pr_getR dX11_nearest_47 lk_X11_51 lc_0 rfl ?_
      refine pr_getI dX11_nearest_50 lk_X11_295 lc_89 rfl ?_
      refine pr_istore_n dX11_nearest_53 (by decide) rfl ?_
      refine pr_iload_n dX11_nearest_54 rfl ?_
      by_cases c_8_0 : (wr x1) = 0
      · have h := pm_pos c_8_0 h
        refine pr_tsIn (j := 0) (tgt := 84) dX11_nearest_55 rfl (c_8_0.trans (by decide)) (by decide) rfl (by decide) ?_
        refine pr_iload_n dX11_nearest_84 rfl ?_
        have h := Option.some.inj h
        subst h
        exact pr_iret dX11_nearest_85 rfl
      · have h := pm_ng c_8_0 h
        by_cases c_8_1 : (wr x1) = 1
        · have h := pm_pos c_8_1 h
          refine pr_tsIn (j := 1) (tgt := 86) dX11_nearest_55 rfl (c_8_1.trans (by decide)) (by decide) rfl (by decide) ?_
          refine pr_iload_n dX11_nearest_86 rfl ?_
          have h := Option.some.inj h
          subst h
          exact pr_iret dX11_nearest_87 rfl
        · have h := pm_ng c_8_1 h
          by_cases c_8_2 : (wr x1) = 2
          · have h := pm_pos c_8_2 h
            refine pr_tsIn (j := 2) (tgt := 88) dX11_nearest_55 rfl (c_8_2.trans (by decide)) (by decide) rfl (by decide) ?_
            refine pr_iconst dX11_nearest_88 ?_
            refine pr_aload_n dX11_nearest_89 rfl ?_
            refine pr_getR dX11_nearest_90 lk_X11_28 lc_0 rfl ?_
            refine pr_getR dX11_nearest_93 lk_X11_44 lc_15 rfl ?_
            refine pr_getR dX11_nearest_96 lk_X11_298 lc_26 rfl ?_
            refine pr_iload_n dX11_nearest_99 rfl ?_
            obtain ⟨g_9, h⟩ := pm_gs h
            refine pr_iald dX11_nearest_100 lc_30 rfl g_9 ?_
            refine pr_imul dX11_nearest_101 ?_
            refine pr_iload_n dX11_nearest_102 rfl ?_
            refine pr_iconst dX11_nearest_103 ?_
            refine pr_irem dX11_nearest_104 rfl (wr_eq (by decide) (by decide)) (by decide) ?_
            refine pr_iadd dX11_nearest_105 ?_
            have h := Option.some.inj h
            subst h
            exact pr_iret dX11_nearest_106 rfl
          · have h := pm_ng c_8_2 h
            by_cases c_8_3 : (wr x1) = 3
            · have h := pm_pos c_8_3 h
              refine pr_tsIn (j := 3) (tgt := 107) dX11_nearest_55 rfl (c_8_3.trans (by decide)) (by decide) rfl (by decide) ?_
              refine pr_aload_n dX11_nearest_107 rfl ?_
              refine pr_getR dX11_nearest_108 lk_X11_51 lc_0 rfl ?_
              refine pr_getI dX11_nearest_111 lk_X11_299 lc_89 rfl ?_
              have h := Option.some.inj h
              subst h
              exact pr_iret dX11_nearest_114 rfl
            · have h := pm_ng c_8_3 h
              refine pr_tsOut (tgt := 115) dX11_nearest_55 rfl (by omega) (by decide) ?_
              refine pr_aload_n dX11_nearest_115 rfl ?_
              refine pr_getR dX11_nearest_116 lk_X11_28 lc_0 rfl ?_
              refine pr_getR dX11_nearest_119 lk_X11_44 lc_15 rfl ?_
              refine pr_getR dX11_nearest_122 lk_X11_302 lc_26 rfl ?_
              refine pr_iload_n dX11_nearest_125 rfl ?_
              obtain ⟨g_7, h⟩ := pm_gs h
              refine pr_iald dX11_nearest_126 lc_32 rfl g_7 ?_
              have h := Option.some.inj h
              subst h
              exact pr_iret dX11_nearest_127 rfl
    · have h := pm_pos c_4 h
      refine pr_bipush dX11_nearest_28 (by decide) ?_
      have h := Option.some.inj h
      subst h
      exact pr_iret dX11_nearest_30 rfl
  · have h := pm_pos c_3 h
    refine pr_aload_n dX11_nearest_8 rfl ?_
    refine pr_bipush dX11_nearest_9 (by decide) ?_
    obtain ⟨q10, e11, h⟩ := pm_bs h
    refine pr_callV (As := [pv_i (-2)]) (S := []) (t := 0) dX11_nearest_11 mk_X11_69 lc_0 (ci := 11) (q := (RX11, TX11, 11)) rfl rfl rfl rfl (by decide) (by decide) (by decide) (Or.inl rfl) (tmX11_refuse e11) ?_
    have h := Option.some.inj h
    subst h
    exact pr_iret dX11_nearest_14 rfl
def fX11_span (x1 : Int) (x2 : Int) (x3 : Int) (σ : pm_M) : Option (Int × pm_M) :=
  (fX11_isMould x1 σ).bind fun q1 => if (wr q1) = 0 then ((fX11_refuse (-1) σ).bind fun q12 => some (q12.1, q12.2)) else (if 0 ≤ (wr x2) then (if (wr x2) ≤ 99 then ((fX4_hourOf x1 x2 x3 σ).bind fun q6 => some (q6, σ)) else ((fX11_refuse (-6) σ).bind fun q8 => some (q8.1, q8.2))) else ((fX11_refuse (-4) σ).bind fun q10 => some (q10.1, q10.2)))
set_option maxHeartbeats 4000000 in
set_option maxRecDepth 100000 in
theorem tmX11_span {x1 : Int} {x2 : Int} {x3 : Int} {σ : pm_M} {ρ : Int × pm_M} (h : fX11_span x1 x2 x3 σ = some ρ) : pm_C mX11_span 5 119 [pv_r 0, pv_i x1, pv_i x2, pv_i x3] LAYC σ (some (pv_i ρ.1)) LAYC ρ.2 := by
  refine pm_C.of rfl rfl (by decide) ?_
  show pm_J mX11_span 5 119 LAYC (some (pv_i ρ.1)) LAYC ρ.2 0 [some (pv_r 0), some (pv_i x1), some (pv_i x2), some (pv_i x3)] [] LAYC σ
  unfold fX11_span at h
  refine pr_aload_n dX11_span_0 rfl ?_
  refine pr_iload_n dX11_span_1 rfl ?_
  obtain ⟨q1, e2, h⟩ := pm_bs h
  refine pr_callV (As := [pv_i x1]) (S := []) (t := 0) dX11_span_2 mk_X11_154 lc_0 (ci := 11) (q := (RX11, TX11, 11)) rfl rfl rfl rfl (by decide) (by decide) (by decide) (Or.inl rfl) (tmX11_isMould e2) ?_
  refine pr_if_ne (tgt := 14) dX11_span_5 rfl (by decide) (fun c_3 => ?_) (fun c_3 => ?_)
  · have h := pm_ng c_3 h
    refine pr_iload_n dX11_span_14 rfl ?_
    refine pr_if_ge (tgt := 25) dX11_span_15 rfl (by decide) (fun c_4 => ?_) (fun c_4 => ?_)
    · have h := pm_pos c_4 h
      refine pr_iload_n dX11_span_25 rfl ?_
      refine pr_bipush dX11_span_26 (by decide) ?_
      refine pr_icmp_le (tgt := 38) dX11_span_28 rfl (wr_eq (by decide) (by decide)) (by decide) (fun c_5 => ?_) (fun c_5 => ?_)
      · have h := pm_pos c_5 h
        refine pr_aload_n dX11_span_38 rfl ?_
        refine pr_getR dX11_span_39 lk_X11_51 lc_0 rfl ?_
        refine pr_iload_n dX11_span_42 rfl ?_
        refine pr_iload_n dX11_span_43 rfl ?_
        refine pr_iload_n dX11_span_44 rfl ?_
        obtain ⟨q6, e7, h⟩ := pm_bs h
        refine pr_callV (As := [pv_i x1, pv_i x2, pv_i x3]) (S := []) (t := 89) dX11_span_45 mk_X11_305 lc_89 (ci := 4) (q := (RX4, TX4, 5)) rfl rfl rfl rfl (by decide) (by decide) (by decide) (Or.inl rfl) (tmX4_hourOf e7) ?_
        have h := Option.some.inj h
        subst h
        exact pr_iret dX11_span_48 rfl
      · have h := pm_ng c_5 h
        refine pr_aload_n dX11_span_31 rfl ?_
        refine pr_bipush dX11_span_32 (by decide) ?_
        obtain ⟨q8, e9, h⟩ := pm_bs h
        refine pr_callV (As := [pv_i (-6)]) (S := []) (t := 0) dX11_span_34 mk_X11_69 lc_0 (ci := 11) (q := (RX11, TX11, 11)) rfl rfl rfl rfl (by decide) (by decide) (by decide) (Or.inl rfl) (tmX11_refuse e9) ?_
        have h := Option.some.inj h
        subst h
        exact pr_iret dX11_span_37 rfl
    · have h := pm_ng c_4 h
      refine pr_aload_n dX11_span_18 rfl ?_
      refine pr_bipush dX11_span_19 (by decide) ?_
      obtain ⟨q10, e11, h⟩ := pm_bs h
      refine pr_callV (As := [pv_i (-4)]) (S := []) (t := 0) dX11_span_21 mk_X11_69 lc_0 (ci := 11) (q := (RX11, TX11, 11)) rfl rfl rfl rfl (by decide) (by decide) (by decide) (Or.inl rfl) (tmX11_refuse e11) ?_
      have h := Option.some.inj h
      subst h
      exact pr_iret dX11_span_24 rfl
  · have h := pm_pos c_3 h
    refine pr_aload_n dX11_span_8 rfl ?_
    refine pr_iconst dX11_span_9 ?_
    obtain ⟨q12, e13, h⟩ := pm_bs h
    refine pr_callV (As := [pv_i (-1)]) (S := []) (t := 0) dX11_span_10 mk_X11_69 lc_0 (ci := 11) (q := (RX11, TX11, 11)) rfl rfl rfl rfl (by decide) (by decide) (by decide) (Or.inl rfl) (tmX11_refuse e13) ?_
    have h := Option.some.inj h
    subst h
    exact pr_iret dX11_span_13 rfl
def fX11_heapOf (x1 : Int) (x2 : Int) (σ : pm_M) : Option (Int × pm_M) :=
  (fX11_isNumber x1 (σ 43 5)).bind fun q1 => if (wr q1) = 0 then ((fX11_refuse (-1) σ).bind fun q15 => some (q15.1, q15.2)) else (if (wr x2) = 0 then (pm_g (0 ≤ (wr x1) ∧ (wr x1) < 40) (some ((σ 44 (Int.toNat (wr x1))), σ))) else (if (wr x2) = 1 then (pm_g (0 ≤ (wr x1) ∧ (wr x1) < 40) (some ((σ 45 (Int.toNat (wr x1))), σ))) else (if (wr x2) = 2 then ((fX1_ageOf 15 x1 (σ 15 7) σ).bind fun q11 => some (q11, σ)) else (if (wr x2) = 3 then ((fX1_isRipe 15 x1 (σ 15 7) σ).bind fun q8 => if (wr q8) = 0 then (some (0, σ)) else (some (1, σ))) else (if (wr x2) = 4 then (pm_g (0 ≤ (wr x1) ∧ (wr x1) < 40) (some ((σ 47 (Int.toNat (wr x1))), σ))) else ((fX11_refuse (-2) σ).bind fun q4 => some (q4.1, q4.2)))))))
set_option maxHeartbeats 4000000 in
set_option maxRecDepth 100000 in
theorem tmX11_heapOf {x1 : Int} {x2 : Int} {σ : pm_M} {ρ : Int × pm_M} (h : fX11_heapOf x1 x2 σ = some ρ) : pm_C mX11_heapOf 2 44 [pv_r 0, pv_i x1, pv_i x2] LAYC σ (some (pv_i ρ.1)) LAYC ρ.2 := by
  refine pm_C.of rfl rfl (by decide) ?_
  show pm_J mX11_heapOf 2 44 LAYC (some (pv_i ρ.1)) LAYC ρ.2 0 [some (pv_r 0), some (pv_i x1), some (pv_i x2), none] [] LAYC σ
  unfold fX11_heapOf at h
  refine pr_aload_n dX11_heapOf_0 rfl ?_
  refine pr_getR dX11_heapOf_1 lk_X11_28 lc_0 rfl ?_
  refine pr_getR dX11_heapOf_4 lk_X11_99 lc_15 rfl ?_
  refine pr_astore_n dX11_heapOf_7 (by decide) rfl ?_
  refine pr_iload_n dX11_heapOf_8 rfl ?_
  refine pr_aload_n dX11_heapOf_9 rfl ?_
  refine pr_getI dX11_heapOf_10 lk_X11_103 lc_43 rfl ?_
  obtain ⟨q1, e2, h⟩ := pm_bs h
  refine pr_callS (av := [pv_i x1, pv_i (σ 43 5)]) (S := []) dX11_heapOf_13 mk_X11_65 rfl rfl (by decide) (by decide) (by decide) (Or.inl rfl) (tmX11_isNumber e2) ?_
  refine pr_if_ne (tgt := 25) dX11_heapOf_16 rfl (by decide) (fun c_3 => ?_) (fun c_3 => ?_)
  · have h := pm_ng c_3 h
    refine pr_iload_n dX11_heapOf_25 rfl ?_
    by_cases c_6_0 : (wr x2) = 0
    · have h := pm_pos c_6_0 h
      refine pr_tsIn (j := 0) (tgt := 60) dX11_heapOf_26 rfl (c_6_0.trans (by decide)) (by decide) rfl (by decide) ?_
      refine pr_aload_n dX11_heapOf_60 rfl ?_
      refine pr_getR dX11_heapOf_61 lk_X11_132 lc_43 rfl ?_
      refine pr_iload_n dX11_heapOf_64 rfl ?_
      obtain ⟨g_14, h⟩ := pm_gs h
      refine pr_iald dX11_heapOf_65 lc_44 rfl g_14 ?_
      have h := Option.some.inj h
      subst h
      exact pr_iret dX11_heapOf_66 rfl
    · have h := pm_ng c_6_0 h
      by_cases c_6_1 : (wr x2) = 1
      · have h := pm_pos c_6_1 h
        refine pr_tsIn (j := 1) (tgt := 67) dX11_heapOf_26 rfl (c_6_1.trans (by decide)) (by decide) rfl (by decide) ?_
        refine pr_aload_n dX11_heapOf_67 rfl ?_
        refine pr_getR dX11_heapOf_68 lk_X11_129 lc_43 rfl ?_
        refine pr_iload_n dX11_heapOf_71 rfl ?_
        obtain ⟨g_13, h⟩ := pm_gs h
        refine pr_iald dX11_heapOf_72 lc_45 rfl g_13 ?_
        have h := Option.some.inj h
        subst h
        exact pr_iret dX11_heapOf_73 rfl
      · have h := pm_ng c_6_1 h
        by_cases c_6_2 : (wr x2) = 2
        · have h := pm_pos c_6_2 h
          refine pr_tsIn (j := 2) (tgt := 74) dX11_heapOf_26 rfl (c_6_2.trans (by decide)) (by decide) rfl (by decide) ?_
          refine pr_aload_n dX11_heapOf_74 rfl ?_
          refine pr_iload_n dX11_heapOf_75 rfl ?_
          refine pr_aload_n dX11_heapOf_76 rfl ?_
          refine pr_getR dX11_heapOf_77 lk_X11_28 lc_0 rfl ?_
          refine pr_getI dX11_heapOf_80 lk_X11_109 lc_15 rfl ?_
          obtain ⟨q11, e12, h⟩ := pm_bs h
          refine pr_callV (As := [pv_i x1, pv_i (σ 15 7)]) (S := []) (t := 43) dX11_heapOf_83 mk_X11_309 lc_43 (ci := 1) (q := (RX1, TX1, 7)) rfl rfl rfl rfl (by decide) (by decide) (by decide) (Or.inl rfl) (tmX1_ageOf (Or.inl rfl) e12) ?_
          have h := Option.some.inj h
          subst h
          exact pr_iret dX11_heapOf_86 rfl
        · have h := pm_ng c_6_2 h
          by_cases c_6_3 : (wr x2) = 3
          · have h := pm_pos c_6_3 h
            refine pr_tsIn (j := 3) (tgt := 87) dX11_heapOf_26 rfl (c_6_3.trans (by decide)) (by decide) rfl (by decide) ?_
            refine pr_aload_n dX11_heapOf_87 rfl ?_
            refine pr_iload_n dX11_heapOf_88 rfl ?_
            refine pr_aload_n dX11_heapOf_89 rfl ?_
            refine pr_getR dX11_heapOf_90 lk_X11_28 lc_0 rfl ?_
            refine pr_getI dX11_heapOf_93 lk_X11_109 lc_15 rfl ?_
            obtain ⟨q8, e9, h⟩ := pm_bs h
            refine pr_callV (As := [pv_i x1, pv_i (σ 15 7)]) (S := []) (t := 43) dX11_heapOf_96 mk_X11_126 lc_43 (ci := 1) (q := (RX1, TX1, 7)) rfl rfl rfl rfl (by decide) (by decide) (by decide) (Or.inl rfl) (tmX1_isRipe (Or.inl rfl) e9) ?_
            refine pr_if_eq (tgt := 106) dX11_heapOf_99 rfl (by decide) (fun c_10 => ?_) (fun c_10 => ?_)
            · have h := pm_pos c_10 h
              refine pr_iconst dX11_heapOf_106 ?_
              have h := Option.some.inj h
              subst h
              exact pr_iret dX11_heapOf_107 rfl
            · have h := pm_ng c_10 h
              refine pr_iconst dX11_heapOf_102 ?_
              refine pr_goto (tgt := 107) dX11_heapOf_103 (by decide) ?_
              have h := Option.some.inj h
              subst h
              exact pr_iret dX11_heapOf_107 rfl
          · have h := pm_ng c_6_3 h
            by_cases c_6_4 : (wr x2) = 4
            · have h := pm_pos c_6_4 h
              refine pr_tsIn (j := 4) (tgt := 108) dX11_heapOf_26 rfl (c_6_4.trans (by decide)) (by decide) rfl (by decide) ?_
              refine pr_aload_n dX11_heapOf_108 rfl ?_
              refine pr_getR dX11_heapOf_109 lk_X11_312 lc_43 rfl ?_
              refine pr_iload_n dX11_heapOf_112 rfl ?_
              obtain ⟨g_7, h⟩ := pm_gs h
              refine pr_iald dX11_heapOf_113 lc_47 rfl g_7 ?_
              have h := Option.some.inj h
              subst h
              exact pr_iret dX11_heapOf_114 rfl
            · have h := pm_ng c_6_4 h
              refine pr_tsOut (tgt := 115) dX11_heapOf_26 rfl (by omega) (by decide) ?_
              refine pr_aload_n dX11_heapOf_115 rfl ?_
              refine pr_bipush dX11_heapOf_116 (by decide) ?_
              obtain ⟨q4, e5, h⟩ := pm_bs h
              refine pr_callV (As := [pv_i (-2)]) (S := []) (t := 0) dX11_heapOf_118 mk_X11_69 lc_0 (ci := 11) (q := (RX11, TX11, 11)) rfl rfl rfl rfl (by decide) (by decide) (by decide) (Or.inl rfl) (tmX11_refuse e5) ?_
              have h := Option.some.inj h
              subst h
              exact pr_iret dX11_heapOf_121 rfl
  · have h := pm_pos c_3 h
    refine pr_aload_n dX11_heapOf_19 rfl ?_
    refine pr_iconst dX11_heapOf_20 ?_
    obtain ⟨q15, e16, h⟩ := pm_bs h
    refine pr_callV (As := [pv_i (-1)]) (S := []) (t := 0) dX11_heapOf_21 mk_X11_69 lc_0 (ci := 11) (q := (RX11, TX11, 11)) rfl rfl rfl rfl (by decide) (by decide) (by decide) (Or.inl rfl) (tmX11_refuse e16) ?_
    have h := Option.some.inj h
    subst h
    exact pr_iret dX11_heapOf_24 rfl
