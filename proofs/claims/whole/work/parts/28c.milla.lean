def fX11_isMould (x1 : Int) (σ : pm_M) : Option (Int) :=
  (fX11_isNumber x1 (2 * (σ 22 3))).bind fun q1 => pm_g (q1 = 0 ∨ q1 = 1) (some q1)
set_option maxHeartbeats 4000000 in
set_option maxRecDepth 100000 in
theorem tmX11_isMould {x1 : Int} {σ : pm_M} {ρ : Int} (h : fX11_isMould x1 σ = some ρ) : pm_C mX11_isMould 1 21 [pv_r 0, pv_i x1] LAYC σ (some (pv_i ρ)) LAYC σ := by
  refine pm_C.of (by decide) rfl (Nat.le_of_ble_eq_true rfl) ?_
  show pm_J mX11_isMould 1 21 LAYC (some (pv_i ρ)) LAYC σ 0 [some (pv_r 0), some (pv_i x1)] [] LAYC σ
  unfold fX11_isMould at h
  refine pr_iload_n dX11_isMould_0 rfl ?_
  refine pr_iconst dX11_isMould_1 ?_
  refine pr_aload_n dX11_isMould_2 rfl ?_
  refine pr_getR dX11_isMould_3 lk_X11_28 lc_0 rfl ?_
  refine pr_getR dX11_isMould_6 lk_X11_142 lc_15 rfl ?_
  refine pr_getI dX11_isMould_9 lk_X11_146 lc_22 rfl ?_
  refine pr_imul dX11_isMould_12 ?_
  obtain ⟨q1, e2, h⟩ := pm_bs h
  refine pr_callS (av := [pv_i x1, pv_i (2 * (σ 22 3))]) (S := []) dX11_isMould_13 mk_X11_65 rfl rfl (Nat.le_of_ble_eq_true rfl) (by decide) (by decide) (Or.inl rfl) (tmX11_isNumber e2) ?_
  obtain ⟨g_3, h⟩ := pm_gs h
  have h := Option.some.inj h
  subst h
  exact pr_zret dX11_isMould_16 rfl g_3
def fX11_wire (x1 : Int) (x2 : Int) (x3 : Int) (σ : pm_M) : Option (Int × pm_M) :=
  (fX11_isMould x1 σ).bind fun q1 => if (wr q1) = 0 then ((fX11_refuse (-1) σ).bind fun q4 => some (q4.1, q4.2)) else ((fX11_isNumber x2 6).bind fun q6 => if (wr q6) = 0 then ((fX11_refuse (-1) σ).bind fun q24 => some (q24.1, q24.2)) else ((fX8_isPairAtPost 15 (Int.tdiv (wr x1) 2) σ).bind fun q9 => if (wr q9) = 0 then (if 0 ≤ (wr x3) then (if (wr x3) ≤ 99 then ((fX3_wireOf 15 x1 x2 σ).bind fun q14 => (fX3_setWire 15 x1 x2 x3 σ).bind fun q16 => some (q14, q16)) else ((fX11_refuse (-6) σ).bind fun q18 => some (q18.1, q18.2))) else ((fX11_refuse (-4) σ).bind fun q20 => some (q20.1, q20.2))) else ((fX11_refuse (-3) σ).bind fun q22 => some (q22.1, q22.2))))
set_option maxHeartbeats 4000000 in
set_option maxRecDepth 100000 in
theorem tmX11_wire {x1 : Int} {x2 : Int} {x3 : Int} {σ : pm_M} {ρ : Int × pm_M} (h : fX11_wire x1 x2 x3 σ = some ρ) : pm_C mX11_wire 2 42 [pv_r 0, pv_i x1, pv_i x2, pv_i x3] LAYC σ (some (pv_i ρ.1)) LAYC ρ.2 := by
  refine pm_C.of (by decide) rfl (Nat.le_of_ble_eq_true rfl) ?_
  show pm_J mX11_wire 2 42 LAYC (some (pv_i ρ.1)) LAYC ρ.2 0 [some (pv_r 0), some (pv_i x1), some (pv_i x2), some (pv_i x3), none] [] LAYC σ
  unfold fX11_wire at h
  refine pr_aload_n dX11_wire_0 rfl ?_
  refine pr_iload_n dX11_wire_1 rfl ?_
  obtain ⟨q1, e2, h⟩ := pm_bs h
  refine pr_callV (As := [pv_i x1]) (S := []) (t := 0) dX11_wire_2 mk_X11_154 lc_0 (ci := 11) (q := (RX11, TX11, 11)) rfl rfl rfl rfl (Nat.le_of_ble_eq_true rfl) (by decide) (by decide) (Or.inl rfl) (tmX11_isMould e2) ?_
  refine pr_if_eq (tgt := 17) dX11_wire_5 rfl (by decide) (fun c_3 => ?_) (fun c_3 => ?_)
  · have h := pm_pos c_3 h
    refine pr_aload_n dX11_wire_17 rfl ?_
    refine pr_iconst dX11_wire_18 ?_
    obtain ⟨q4, e5, h⟩ := pm_bs h
    refine pr_callV (As := [pv_i (-1)]) (S := []) (t := 0) dX11_wire_19 mk_X11_69 lc_0 (ci := 11) (q := (RX11, TX11, 11)) rfl rfl rfl rfl (Nat.le_of_ble_eq_true rfl) (by decide) (by decide) (Or.inl rfl) (tmX11_refuse e5) ?_
    have h := Option.some.inj h
    subst h
    exact pr_iret dX11_wire_22 rfl
  · have h := pm_ng c_3 h
    refine pr_iload_n dX11_wire_8 rfl ?_
    refine pr_bipush dX11_wire_9 (by decide) ?_
    obtain ⟨q6, e7, h⟩ := pm_bs h
    refine pr_callS (av := [pv_i x2, pv_i 6]) (S := []) dX11_wire_11 mk_X11_65 rfl rfl (Nat.le_of_ble_eq_true rfl) (by decide) (by decide) (Or.inl rfl) (tmX11_isNumber e7) ?_
    refine pr_if_ne (tgt := 23) dX11_wire_14 rfl (by decide) (fun c_8 => ?_) (fun c_8 => ?_)
    · have h := pm_ng c_8 h
      refine pr_aload_n dX11_wire_23 rfl ?_
      refine pr_getR dX11_wire_24 lk_X11_28 lc_0 rfl ?_
      refine pr_getR dX11_wire_27 lk_X11_157 lc_15 rfl ?_
      refine pr_iload_n dX11_wire_30 rfl ?_
      refine pr_iconst dX11_wire_31 ?_
      refine pr_idiv dX11_wire_32 rfl (wr_eq (by decide) (by decide)) (by decide) ?_
      obtain ⟨q9, e10, h⟩ := pm_bs h
      refine pr_callV (As := [pv_i (Int.tdiv (wr x1) 2)]) (S := []) (t := 37) dX11_wire_33 mk_X11_161 lc_37 (ci := 8) (q := (RX8, TX8, 9)) rfl rfl rfl rfl (Nat.le_of_ble_eq_true rfl) (by decide) (by decide) (Or.inl rfl) (tmX8_isPairAtPost (Or.inl rfl) e10) ?_
      refine pr_if_eq (tgt := 46) dX11_wire_36 rfl (by decide) (fun c_11 => ?_) (fun c_11 => ?_)
      · have h := pm_pos c_11 h
        refine pr_iload_n dX11_wire_46 rfl ?_
        refine pr_if_ge (tgt := 57) dX11_wire_47 rfl (by decide) (fun c_12 => ?_) (fun c_12 => ?_)
        · have h := pm_pos c_12 h
          refine pr_iload_n dX11_wire_57 rfl ?_
          refine pr_bipush dX11_wire_58 (by decide) ?_
          refine pr_icmp_le (tgt := 70) dX11_wire_60 rfl (wr_eq (by decide) (by decide)) (by decide) (fun c_13 => ?_) (fun c_13 => ?_)
          · have h := pm_pos c_13 h
            refine pr_aload_n dX11_wire_70 rfl ?_
            refine pr_getR dX11_wire_71 lk_X11_28 lc_0 rfl ?_
            refine pr_getR dX11_wire_74 lk_X11_142 lc_15 rfl ?_
            refine pr_iload_n dX11_wire_77 rfl ?_
            refine pr_iload_n dX11_wire_78 rfl ?_
            obtain ⟨q14, e15, h⟩ := pm_bs h
            refine pr_callV (As := [pv_i x1, pv_i x2]) (S := []) (t := 22) dX11_wire_79 mk_X11_166 lc_22 (ci := 3) (q := (RX3, TX3, 4)) rfl rfl rfl rfl (Nat.le_of_ble_eq_true rfl) (by decide) (by decide) (Or.inl rfl) (tmX3_wireOf (Or.inl rfl) e15) ?_
            refine pr_istore dX11_wire_82 (by decide) rfl ?_
            refine pr_aload_n dX11_wire_84 rfl ?_
            refine pr_getR dX11_wire_85 lk_X11_28 lc_0 rfl ?_
            refine pr_getR dX11_wire_88 lk_X11_142 lc_15 rfl ?_
            refine pr_iload_n dX11_wire_91 rfl ?_
            refine pr_iload_n dX11_wire_92 rfl ?_
            refine pr_iload_n dX11_wire_93 rfl ?_
            obtain ⟨q16, e17, h⟩ := pm_bs h
            refine pr_callV (As := [pv_i x1, pv_i x2, pv_i x3]) (S := []) (t := 22) dX11_wire_94 mk_X11_169 lc_22 (ci := 3) (q := (RX3, TX3, 4)) rfl rfl rfl rfl (Nat.le_of_ble_eq_true rfl) (by decide) (by decide) (Or.inl rfl) (tmX3_setWire (Or.inl rfl) e17) ?_
            refine pr_iload dX11_wire_97 rfl ?_
            have h := Option.some.inj h
            subst h
            exact pr_iret dX11_wire_99 rfl
          · have h := pm_ng c_13 h
            refine pr_aload_n dX11_wire_63 rfl ?_
            refine pr_bipush dX11_wire_64 (by decide) ?_
            obtain ⟨q18, e19, h⟩ := pm_bs h
            refine pr_callV (As := [pv_i (-6)]) (S := []) (t := 0) dX11_wire_66 mk_X11_69 lc_0 (ci := 11) (q := (RX11, TX11, 11)) rfl rfl rfl rfl (Nat.le_of_ble_eq_true rfl) (by decide) (by decide) (Or.inl rfl) (tmX11_refuse e19) ?_
            have h := Option.some.inj h
            subst h
            exact pr_iret dX11_wire_69 rfl
        · have h := pm_ng c_12 h
          refine pr_aload_n dX11_wire_50 rfl ?_
          refine pr_bipush dX11_wire_51 (by decide) ?_
          obtain ⟨q20, e21, h⟩ := pm_bs h
          refine pr_callV (As := [pv_i (-4)]) (S := []) (t := 0) dX11_wire_53 mk_X11_69 lc_0 (ci := 11) (q := (RX11, TX11, 11)) rfl rfl rfl rfl (Nat.le_of_ble_eq_true rfl) (by decide) (by decide) (Or.inl rfl) (tmX11_refuse e21) ?_
          have h := Option.some.inj h
          subst h
          exact pr_iret dX11_wire_56 rfl
      · have h := pm_ng c_11 h
        refine pr_aload_n dX11_wire_39 rfl ?_
        refine pr_bipush dX11_wire_40 (by decide) ?_
        obtain ⟨q22, e23, h⟩ := pm_bs h
        refine pr_callV (As := [pv_i (-3)]) (S := []) (t := 0) dX11_wire_42 mk_X11_69 lc_0 (ci := 11) (q := (RX11, TX11, 11)) rfl rfl rfl rfl (Nat.le_of_ble_eq_true rfl) (by decide) (by decide) (Or.inl rfl) (tmX11_refuse e23) ?_
        have h := Option.some.inj h
        subst h
        exact pr_iret dX11_wire_45 rfl
    · have h := pm_pos c_8 h
      refine pr_aload_n dX11_wire_17 rfl ?_
      refine pr_iconst dX11_wire_18 ?_
      obtain ⟨q24, e25, h⟩ := pm_bs h
      refine pr_callV (As := [pv_i (-1)]) (S := []) (t := 0) dX11_wire_19 mk_X11_69 lc_0 (ci := 11) (q := (RX11, TX11, 11)) rfl rfl rfl rfl (Nat.le_of_ble_eq_true rfl) (by decide) (by decide) (Or.inl rfl) (tmX11_refuse e25) ?_
      have h := Option.some.inj h
      subst h
      exact pr_iret dX11_wire_22 rfl
def fX11_mouldOf (x1 : Int) (x2 : Int) (σ : pm_M) : Option (Int × pm_M) :=
  (fX11_isMould x1 σ).bind fun q1 => if (wr q1) = 0 then ((fX11_refuse (-1) σ).bind fun q13 => some (q13.1, q13.2)) else ((fX11_isNumber x2 7).bind fun q4 => if (wr q4) = 0 then ((fX11_refuse (-2) σ).bind fun q11 => some (q11.1, q11.2)) else (if (wr x2) = 6 then (pm_g (0 ≤ (wr x1) ∧ (wr x1) < 8) (some ((σ 25 (Int.toNat (wr x1))), σ))) else ((fX3_wireOf 15 x1 x2 σ).bind fun q8 => some (q8, σ))))
set_option maxHeartbeats 4000000 in
set_option maxRecDepth 100000 in
theorem tmX11_mouldOf {x1 : Int} {x2 : Int} {σ : pm_M} {ρ : Int × pm_M} (h : fX11_mouldOf x1 x2 σ = some ρ) : pm_C mX11_mouldOf 2 42 [pv_r 0, pv_i x1, pv_i x2] LAYC σ (some (pv_i ρ.1)) LAYC ρ.2 := by
  refine pm_C.of (by decide) rfl (Nat.le_of_ble_eq_true rfl) ?_
  show pm_J mX11_mouldOf 2 42 LAYC (some (pv_i ρ.1)) LAYC ρ.2 0 [some (pv_r 0), some (pv_i x1), some (pv_i x2)] [] LAYC σ
  unfold fX11_mouldOf at h
  refine pr_aload_n dX11_mouldOf_0 rfl ?_
  refine pr_iload_n dX11_mouldOf_1 rfl ?_
  obtain ⟨q1, e2, h⟩ := pm_bs h
  refine pr_callV (As := [pv_i x1]) (S := []) (t := 0) dX11_mouldOf_2 mk_X11_154 lc_0 (ci := 11) (q := (RX11, TX11, 11)) rfl rfl rfl rfl (Nat.le_of_ble_eq_true rfl) (by decide) (by decide) (Or.inl rfl) (tmX11_isMould e2) ?_
  refine pr_if_ne (tgt := 14) dX11_mouldOf_5 rfl (by decide) (fun c_3 => ?_) (fun c_3 => ?_)
  · have h := pm_ng c_3 h
    refine pr_iload_n dX11_mouldOf_14 rfl ?_
    refine pr_bipush dX11_mouldOf_15 (by decide) ?_
    obtain ⟨q4, e5, h⟩ := pm_bs h
    refine pr_callS (av := [pv_i x2, pv_i 7]) (S := []) dX11_mouldOf_17 mk_X11_65 rfl rfl (Nat.le_of_ble_eq_true rfl) (by decide) (by decide) (Or.inl rfl) (tmX11_isNumber e5) ?_
    refine pr_if_ne (tgt := 30) dX11_mouldOf_20 rfl (by decide) (fun c_6 => ?_) (fun c_6 => ?_)
    · have h := pm_ng c_6 h
      refine pr_iload_n dX11_mouldOf_30 rfl ?_
      refine pr_bipush dX11_mouldOf_31 (by decide) ?_
      refine pr_icmp_ne (tgt := 51) dX11_mouldOf_33 rfl (wr_eq (by decide) (by decide)) (by decide) (fun c_7 => ?_) (fun c_7 => ?_)
      · have h := pm_ng c_7 h
        refine pr_aload_n dX11_mouldOf_51 rfl ?_
        refine pr_getR dX11_mouldOf_52 lk_X11_28 lc_0 rfl ?_
        refine pr_getR dX11_mouldOf_55 lk_X11_142 lc_15 rfl ?_
        refine pr_iload_n dX11_mouldOf_58 rfl ?_
        refine pr_iload_n dX11_mouldOf_59 rfl ?_
        obtain ⟨q8, e9, h⟩ := pm_bs h
        refine pr_callV (As := [pv_i x1, pv_i x2]) (S := []) (t := 22) dX11_mouldOf_60 mk_X11_166 lc_22 (ci := 3) (q := (RX3, TX3, 4)) rfl rfl rfl rfl (Nat.le_of_ble_eq_true rfl) (by decide) (by decide) (Or.inl rfl) (tmX3_wireOf (Or.inl rfl) e9) ?_
        have h := Option.some.inj h
        subst h
        exact pr_iret dX11_mouldOf_63 rfl
      · have h := pm_pos c_7 h
        refine pr_aload_n dX11_mouldOf_36 rfl ?_
        refine pr_getR dX11_mouldOf_37 lk_X11_28 lc_0 rfl ?_
        refine pr_getR dX11_mouldOf_40 lk_X11_142 lc_15 rfl ?_
        refine pr_getR dX11_mouldOf_43 lk_X11_172 lc_22 rfl ?_
        refine pr_iload_n dX11_mouldOf_46 rfl ?_
        obtain ⟨g_10, h⟩ := pm_gs h
        refine pr_iald dX11_mouldOf_47 lc_25 rfl g_10 ?_
        refine pr_goto (tgt := 63) dX11_mouldOf_48 (by decide) ?_
        have h := Option.some.inj h
        subst h
        exact pr_iret dX11_mouldOf_63 rfl
    · have h := pm_pos c_6 h
      refine pr_aload_n dX11_mouldOf_23 rfl ?_
      refine pr_bipush dX11_mouldOf_24 (by decide) ?_
      obtain ⟨q11, e12, h⟩ := pm_bs h
      refine pr_callV (As := [pv_i (-2)]) (S := []) (t := 0) dX11_mouldOf_26 mk_X11_69 lc_0 (ci := 11) (q := (RX11, TX11, 11)) rfl rfl rfl rfl (Nat.le_of_ble_eq_true rfl) (by decide) (by decide) (Or.inl rfl) (tmX11_refuse e12) ?_
      have h := Option.some.inj h
      subst h
      exact pr_iret dX11_mouldOf_29 rfl
  · have h := pm_pos c_3 h
    refine pr_aload_n dX11_mouldOf_8 rfl ?_
    refine pr_iconst dX11_mouldOf_9 ?_
    obtain ⟨q13, e14, h⟩ := pm_bs h
    refine pr_callV (As := [pv_i (-1)]) (S := []) (t := 0) dX11_mouldOf_10 mk_X11_69 lc_0 (ci := 11) (q := (RX11, TX11, 11)) rfl rfl rfl rfl (Nat.le_of_ble_eq_true rfl) (by decide) (by decide) (Or.inl rfl) (tmX11_refuse e14) ?_
    have h := Option.some.inj h
    subst h
    exact pr_iret dX11_mouldOf_13 rfl
def jnX11_vat_36 (w1 : Int) (w2 : Int) (σ : pm_M) : Option (Int × pm_M) :=
  pm_g (0 ≤ (wr w1) ∧ (wr w1) < 3) (if 0 < (wr (σ 40 (Int.toNat (wr w1)))) then ((fX11_refuse (-3) σ).bind fun q9 => some (q9.1, q9.2)) else ((fX8_isPairElsewhere 15 w1 w2 σ).bind fun q11 => if (wr q11) = 0 then (if (wr w2) = (-1) then (pm_g (0 ≤ (wr w1) ∧ (wr w1) < 3) (some (1, (pm_up σ 38 (Int.toNat (wr w1)) (-9))))) else (pm_g (0 ≤ (wr w1) ∧ (wr w1) < 3) (some (1, (pm_up σ 38 (Int.toNat (wr w1)) w2))))) else ((fX11_refuse (-3) σ).bind fun q17 => some (q17.1, q17.2))))
set_option maxHeartbeats 4000000 in
set_option maxRecDepth 100000 in
theorem tjX11_vat_36 {lay0 : List pm_S} {w1 : Int} {w2 : Int} {σ : pm_M} {ρ : Int × pm_M} (h : jnX11_vat_36 w1 w2 σ = some ρ) : pm_J mX11_vat 1 23 lay0 (some (pv_i ρ.1)) LAYC ρ.2 36 [some (pv_r 0), some (pv_i w1), some (pv_i w2)] [] LAYC σ := by
  unfold jnX11_vat_36 at h
  refine pr_aload_n dX11_vat_36 rfl ?_
  refine pr_getR dX11_vat_37 lk_X11_28 lc_0 rfl ?_
  refine pr_getR dX11_vat_40 lk_X11_157 lc_15 rfl ?_
  refine pr_getR dX11_vat_43 lk_X11_175 lc_37 rfl ?_
  refine pr_iload_n dX11_vat_46 rfl ?_
  obtain ⟨g_7, h⟩ := pm_gs h
  refine pr_iald dX11_vat_47 lc_40 rfl g_7 ?_
  refine pr_if_gt (tgt := 66) dX11_vat_48 rfl (by decide) (fun c_8 => ?_) (fun c_8 => ?_)
  · have h := pm_pos c_8 h
    refine pr_aload_n dX11_vat_66 rfl ?_
    refine pr_bipush dX11_vat_67 (by decide) ?_
    obtain ⟨q9, e10, h⟩ := pm_bs h
    refine pr_callV (As := [pv_i (-3)]) (S := []) (t := 0) dX11_vat_69 mk_X11_69 lc_0 (ci := 11) (q := (RX11, TX11, 11)) rfl rfl rfl rfl (Nat.le_of_ble_eq_true rfl) (by decide) (by decide) (Or.inl rfl) (tmX11_refuse e10) ?_
    have h := Option.some.inj h
    subst h
    exact pr_iret dX11_vat_72 rfl
  · have h := pm_ng c_8 h
    refine pr_aload_n dX11_vat_51 rfl ?_
    refine pr_getR dX11_vat_52 lk_X11_28 lc_0 rfl ?_
    refine pr_getR dX11_vat_55 lk_X11_157 lc_15 rfl ?_
    refine pr_iload_n dX11_vat_58 rfl ?_
    refine pr_iload_n dX11_vat_59 rfl ?_
    obtain ⟨q11, e12, h⟩ := pm_bs h
    refine pr_callV (As := [pv_i w1, pv_i w2]) (S := []) (t := 37) dX11_vat_60 mk_X11_178 lc_37 (ci := 8) (q := (RX8, TX8, 9)) rfl rfl rfl rfl (Nat.le_of_ble_eq_true rfl) (by decide) (by decide) (Or.inl rfl) (tmX8_isPairElsewhere (Or.inl rfl) e12) ?_
    refine pr_if_eq (tgt := 73) dX11_vat_63 rfl (by decide) (fun c_13 => ?_) (fun c_13 => ?_)
    · have h := pm_pos c_13 h
      refine pr_aload_n dX11_vat_73 rfl ?_
      refine pr_getR dX11_vat_74 lk_X11_28 lc_0 rfl ?_
      refine pr_getR dX11_vat_77 lk_X11_157 lc_15 rfl ?_
      refine pr_getR dX11_vat_80 lk_X11_181 lc_37 rfl ?_
      refine pr_iload_n dX11_vat_83 rfl ?_
      refine pr_iload_n dX11_vat_84 rfl ?_
      refine pr_iconst dX11_vat_85 ?_
      refine pr_icmp_ne (tgt := 94) dX11_vat_86 rfl (wr_eq (by decide) (by decide)) (by decide) (fun c_14 => ?_) (fun c_14 => ?_)
      · have h := pm_ng c_14 h
        refine pr_iload_n dX11_vat_94 rfl ?_
        obtain ⟨g_15, h⟩ := pm_gs h
        refine pr_iast dX11_vat_95 lc_38 rfl g_15 ?_
        refine pr_iconst dX11_vat_96 ?_
        have h := Option.some.inj h
        subst h
        exact pr_iret dX11_vat_97 rfl
      · have h := pm_pos c_14 h
        refine pr_bipush dX11_vat_89 (by decide) ?_
        refine pr_goto (tgt := 95) dX11_vat_91 (by decide) ?_
        obtain ⟨g_16, h⟩ := pm_gs h
        refine pr_iast dX11_vat_95 lc_38 rfl g_16 ?_
        refine pr_iconst dX11_vat_96 ?_
        have h := Option.some.inj h
        subst h
        exact pr_iret dX11_vat_97 rfl
    · have h := pm_ng c_13 h
      refine pr_aload_n dX11_vat_66 rfl ?_
      refine pr_bipush dX11_vat_67 (by decide) ?_
      obtain ⟨q17, e18, h⟩ := pm_bs h
      refine pr_callV (As := [pv_i (-3)]) (S := []) (t := 0) dX11_vat_69 mk_X11_69 lc_0 (ci := 11) (q := (RX11, TX11, 11)) rfl rfl rfl rfl (Nat.le_of_ble_eq_true rfl) (by decide) (by decide) (Or.inl rfl) (tmX11_refuse e18) ?_
      have h := Option.some.inj h
      subst h
      exact pr_iret dX11_vat_72 rfl
def fX11_vat (x1 : Int) (x2 : Int) (σ : pm_M) : Option (Int × pm_M) :=
  (fX11_isNumber x1 3).bind fun q1 => if (wr q1) = 0 then ((fX11_refuse (-1) σ).bind fun q4 => some (q4.1, q4.2)) else (if (wr x2) = (-1) then (jnX11_vat_36 x1 x2 σ) else ((fX11_isNumber x2 (σ 22 3)).bind fun q19 => if (wr q19) = 0 then ((fX11_refuse (-1) σ).bind fun q22 => some (q22.1, q22.2)) else (jnX11_vat_36 x1 x2 σ)))
set_option maxHeartbeats 4000000 in
set_option maxRecDepth 100000 in
theorem tmX11_vat {x1 : Int} {x2 : Int} {σ : pm_M} {ρ : Int × pm_M} (h : fX11_vat x1 x2 σ = some ρ) : pm_C mX11_vat 1 23 [pv_r 0, pv_i x1, pv_i x2] LAYC σ (some (pv_i ρ.1)) LAYC ρ.2 := by
  refine pm_C.of (by decide) rfl (Nat.le_of_ble_eq_true rfl) ?_
  show pm_J mX11_vat 1 23 LAYC (some (pv_i ρ.1)) LAYC ρ.2 0 [some (pv_r 0), some (pv_i x1), some (pv_i x2)] [] LAYC σ
  unfold fX11_vat at h
  refine pr_iload_n dX11_vat_0 rfl ?_
  refine pr_iconst dX11_vat_1 ?_
  obtain ⟨q1, e2, h⟩ := pm_bs h
  refine pr_callS (av := [pv_i x1, pv_i 3]) (S := []) dX11_vat_2 mk_X11_65 rfl rfl (Nat.le_of_ble_eq_true rfl) (by decide) (by decide) (Or.inl rfl) (tmX11_isNumber e2) ?_
  refine pr_if_eq (tgt := 30) dX11_vat_5 rfl (by decide) (fun c_3 => ?_) (fun c_3 => ?_)
  · have h := pm_pos c_3 h
    refine pr_aload_n dX11_vat_30 rfl ?_
    refine pr_iconst dX11_vat_31 ?_
    obtain ⟨q4, e5, h⟩ := pm_bs h
    refine pr_callV (As := [pv_i (-1)]) (S := []) (t := 0) dX11_vat_32 mk_X11_69 lc_0 (ci := 11) (q := (RX11, TX11, 11)) rfl rfl rfl rfl (Nat.le_of_ble_eq_true rfl) (by decide) (by decide) (Or.inl rfl) (tmX11_refuse e5) ?_
    have h := Option.some.inj h
    subst h
    exact pr_iret dX11_vat_35 rfl
  · have h := pm_ng c_3 h
    refine pr_iload_n dX11_vat_8 rfl ?_
    refine pr_iconst dX11_vat_9 ?_
    refine pr_icmp_eq (tgt := 36) dX11_vat_10 rfl (wr_eq (by decide) (by decide)) (by decide) (fun c_6 => ?_) (fun c_6 => ?_)
    · have h := pm_pos c_6 h
      refine pr_weak (L2 := [some (pv_r 0), some (pv_i x1), some (pv_i x2)]) ⟨Or.inr rfl, Or.inr rfl, Or.inr rfl, trivial⟩ ?_
      exact tjX11_vat_36 h
    · have h := pm_ng c_6 h
      refine pr_iload_n dX11_vat_13 rfl ?_
      refine pr_aload_n dX11_vat_14 rfl ?_
      refine pr_getR dX11_vat_15 lk_X11_28 lc_0 rfl ?_
      refine pr_getR dX11_vat_18 lk_X11_142 lc_15 rfl ?_
      refine pr_getI dX11_vat_21 lk_X11_146 lc_22 rfl ?_
      obtain ⟨q19, e20, h⟩ := pm_bs h
      refine pr_callS (av := [pv_i x2, pv_i (σ 22 3)]) (S := []) dX11_vat_24 mk_X11_65 rfl rfl (Nat.le_of_ble_eq_true rfl) (by decide) (by decide) (Or.inl rfl) (tmX11_isNumber e20) ?_
      refine pr_if_ne (tgt := 36) dX11_vat_27 rfl (by decide) (fun c_21 => ?_) (fun c_21 => ?_)
      · have h := pm_ng c_21 h
        refine pr_weak (L2 := [some (pv_r 0), some (pv_i x1), some (pv_i x2)]) ⟨Or.inr rfl, Or.inr rfl, Or.inr rfl, trivial⟩ ?_
        exact tjX11_vat_36 h
      · have h := pm_pos c_21 h
        refine pr_aload_n dX11_vat_30 rfl ?_
        refine pr_iconst dX11_vat_31 ?_
        obtain ⟨q22, e23, h⟩ := pm_bs h
        refine pr_callV (As := [pv_i (-1)]) (S := []) (t := 0) dX11_vat_32 mk_X11_69 lc_0 (ci := 11) (q := (RX11, TX11, 11)) rfl rfl rfl rfl (Nat.le_of_ble_eq_true rfl) (by decide) (by decide) (Or.inl rfl) (tmX11_refuse e23) ?_
        have h := Option.some.inj h
        subst h
        exact pr_iret dX11_vat_35 rfl
def fX11_furnish (x1 : Int) (x2 : Int) (σ : pm_M) : Option (Int × pm_M) :=
  (fX11_isNumber x1 3).bind fun q1 => if (wr q1) = 0 then ((fX11_refuse (-1) σ).bind fun q4 => some (q4.1, q4.2)) else ((fX11_isNumber x2 9).bind fun q6 => if (wr q6) = 0 then ((fX11_refuse (-1) σ).bind fun q11 => some (q11.1, q11.2)) else (pm_g (0 ≤ (wr x1) ∧ (wr x1) < 3) (pm_g (0 ≤ (wr x1) ∧ (wr x1) < 3) (some ((σ 39 (Int.toNat (wr x1))), (pm_up σ 39 (Int.toNat (wr x1)) x2))))))
set_option maxHeartbeats 4000000 in
set_option maxRecDepth 100000 in
theorem tmX11_furnish {x1 : Int} {x2 : Int} {σ : pm_M} {ρ : Int × pm_M} (h : fX11_furnish x1 x2 σ = some ρ) : pm_C mX11_furnish 1 21 [pv_r 0, pv_i x1, pv_i x2] LAYC σ (some (pv_i ρ.1)) LAYC ρ.2 := by
  refine pm_C.of (by decide) rfl (Nat.le_of_ble_eq_true rfl) ?_
  show pm_J mX11_furnish 1 21 LAYC (some (pv_i ρ.1)) LAYC ρ.2 0 [some (pv_r 0), some (pv_i x1), some (pv_i x2), none] [] LAYC σ
  unfold fX11_furnish at h
  refine pr_iload_n dX11_furnish_0 rfl ?_
  refine pr_iconst dX11_furnish_1 ?_
  obtain ⟨q1, e2, h⟩ := pm_bs h
  refine pr_callS (av := [pv_i x1, pv_i 3]) (S := []) dX11_furnish_2 mk_X11_65 rfl rfl (Nat.le_of_ble_eq_true rfl) (by decide) (by decide) (Or.inl rfl) (tmX11_isNumber e2) ?_
  refine pr_if_eq (tgt := 17) dX11_furnish_5 rfl (by decide) (fun c_3 => ?_) (fun c_3 => ?_)
  · have h := pm_pos c_3 h
    refine pr_aload_n dX11_furnish_17 rfl ?_
    refine pr_iconst dX11_furnish_18 ?_
    obtain ⟨q4, e5, h⟩ := pm_bs h
    refine pr_callV (As := [pv_i (-1)]) (S := []) (t := 0) dX11_furnish_19 mk_X11_69 lc_0 (ci := 11) (q := (RX11, TX11, 11)) rfl rfl rfl rfl (Nat.le_of_ble_eq_true rfl) (by decide) (by decide) (Or.inl rfl) (tmX11_refuse e5) ?_
    have h := Option.some.inj h
    subst h
    exact pr_iret dX11_furnish_22 rfl
  · have h := pm_ng c_3 h
    refine pr_iload_n dX11_furnish_8 rfl ?_
    refine pr_bipush dX11_furnish_9 (by decide) ?_
    obtain ⟨q6, e7, h⟩ := pm_bs h
    refine pr_callS (av := [pv_i x2, pv_i 9]) (S := []) dX11_furnish_11 mk_X11_65 rfl rfl (Nat.le_of_ble_eq_true rfl) (by decide) (by decide) (Or.inl rfl) (tmX11_isNumber e7) ?_
    refine pr_if_ne (tgt := 23) dX11_furnish_14 rfl (by decide) (fun c_8 => ?_) (fun c_8 => ?_)
    · have h := pm_ng c_8 h
      refine pr_aload_n dX11_furnish_23 rfl ?_
      refine pr_getR dX11_furnish_24 lk_X11_28 lc_0 rfl ?_
      refine pr_getR dX11_furnish_27 lk_X11_157 lc_15 rfl ?_
      refine pr_getR dX11_furnish_30 lk_X11_184 lc_37 rfl ?_
      refine pr_iload_n dX11_furnish_33 rfl ?_
      obtain ⟨g_9, h⟩ := pm_gs h
      refine pr_iald dX11_furnish_34 lc_39 rfl g_9 ?_
      refine pr_istore_n dX11_furnish_35 (by decide) rfl ?_
      refine pr_aload_n dX11_furnish_36 rfl ?_
      refine pr_getR dX11_furnish_37 lk_X11_28 lc_0 rfl ?_
      refine pr_getR dX11_furnish_40 lk_X11_157 lc_15 rfl ?_
      refine pr_getR dX11_furnish_43 lk_X11_184 lc_37 rfl ?_
      refine pr_iload_n dX11_furnish_46 rfl ?_
      refine pr_iload_n dX11_furnish_47 rfl ?_
      obtain ⟨g_10, h⟩ := pm_gs h
      refine pr_iast dX11_furnish_48 lc_39 rfl g_10 ?_
      refine pr_iload_n dX11_furnish_49 rfl ?_
      have h := Option.some.inj h
      subst h
      exact pr_iret dX11_furnish_50 rfl
    · have h := pm_pos c_8 h
      refine pr_aload_n dX11_furnish_17 rfl ?_
      refine pr_iconst dX11_furnish_18 ?_
      obtain ⟨q11, e12, h⟩ := pm_bs h
      refine pr_callV (As := [pv_i (-1)]) (S := []) (t := 0) dX11_furnish_19 mk_X11_69 lc_0 (ci := 11) (q := (RX11, TX11, 11)) rfl rfl rfl rfl (Nat.le_of_ble_eq_true rfl) (by decide) (by decide) (Or.inl rfl) (tmX11_refuse e12) ?_
      have h := Option.some.inj h
      subst h
      exact pr_iret dX11_furnish_22 rfl
