def fX11_refuse (x1 : Int) (σ : pm_M) : Option (Int × pm_M) :=
  pm_g (0 ≤ (wr (-x1)) ∧ (wr (-x1)) < 7) (pm_g (0 ≤ (wr (-x1)) ∧ (wr (-x1)) < 7) (some (x1, (pm_up σ 93 (Int.toNat (wr (-x1))) ((σ 93 (Int.toNat (wr (-x1)))) + 1)))))
set_option maxHeartbeats 4000000 in
set_option maxRecDepth 100000 in
theorem tmX11_refuse {x1 : Int} {σ : pm_M} {ρ : Int × pm_M} (h : fX11_refuse x1 σ = some ρ) : pm_C mX11_refuse 0 0 [pv_r 0, pv_i x1] LAYC σ (some (pv_i ρ.1)) LAYC ρ.2 := by
  refine pm_C.of (by decide) rfl (Nat.le_of_ble_eq_true rfl) ?_
  show pm_J mX11_refuse 0 0 LAYC (some (pv_i ρ.1)) LAYC ρ.2 0 [some (pv_r 0), some (pv_i x1)] [] LAYC σ
  unfold fX11_refuse at h
  refine pr_aload_n dX11_refuse_0 rfl ?_
  refine pr_getR dX11_refuse_1 lk_X11_62 lc_0 rfl ?_
  refine pr_iload_n dX11_refuse_4 rfl ?_
  refine pr_ineg dX11_refuse_5 ?_
  refine pr_dup2 dX11_refuse_6 rfl rfl ?_
  obtain ⟨g_1, h⟩ := pm_gs h
  refine pr_iald dX11_refuse_7 lc_93 rfl g_1 ?_
  refine pr_iconst dX11_refuse_8 ?_
  refine pr_iadd dX11_refuse_9 ?_
  obtain ⟨g_2, h⟩ := pm_gs h
  refine pr_iast dX11_refuse_10 lc_93 rfl g_2 ?_
  refine pr_iload_n dX11_refuse_11 rfl ?_
  have h := Option.some.inj h
  subst h
  exact pr_iret dX11_refuse_12 rfl
def fX11_day (x1 : Int) (x2 : Int) (x3 : Int) (σ : pm_M) : Option (Int × pm_M) :=
  (fX11_isNumber x1 101).bind fun q1 => if (wr q1) = 0 then ((fX11_refuse (-1) σ).bind fun q21 => some (q21.1, q21.2)) else ((fX11_isNumber x2 3).bind fun q4 => if (wr q4) = 0 then ((fX11_refuse (-2) σ).bind fun q19 => some (q19.1, q19.2)) else (pm_g (0 ≤ (wr x2) ∧ (wr x2) < 3) (if (wr (([-1, -1, 0] : List Int).getD (Int.toNat (wr x2)) 0)) ≤ (wr x3) then (pm_g (0 ≤ (wr x2) ∧ (wr x2) < 3) (if (wr x3) ≤ (wr (([60, 9, 1] : List Int).getD (Int.toNat (wr x2)) 0)) then ((fX9_on x1 x2 σ).bind fun q11 => (fX9_tell x1 x2 x3 σ).bind fun q13 => some (q11, q13)) else ((fX11_refuse (-6) σ).bind fun q15 => some (q15.1, q15.2)))) else ((fX11_refuse (-4) σ).bind fun q17 => some (q17.1, q17.2)))))
set_option maxHeartbeats 4000000 in
set_option maxRecDepth 100000 in
theorem tmX11_day {x1 : Int} {x2 : Int} {x3 : Int} {σ : pm_M} {ρ : Int × pm_M} (h : fX11_day x1 x2 x3 σ = some ρ) : pm_C mX11_day 3 70 [pv_r 0, pv_i x1, pv_i x2, pv_i x3] LAYC σ (some (pv_i ρ.1)) LAYC ρ.2 := by
  refine pm_C.of (by decide) rfl (Nat.le_of_ble_eq_true rfl) ?_
  show pm_J mX11_day 3 70 LAYC (some (pv_i ρ.1)) LAYC ρ.2 0 [some (pv_r 0), some (pv_i x1), some (pv_i x2), some (pv_i x3), none] [] LAYC σ
  unfold fX11_day at h
  refine pr_iload_n dX11_day_0 rfl ?_
  refine pr_bipush dX11_day_1 (by decide) ?_
  obtain ⟨q1, e2, h⟩ := pm_bs h
  refine pr_callS (av := [pv_i x1, pv_i 101]) (S := []) dX11_day_3 mk_X11_65 rfl rfl (Nat.le_of_ble_eq_true rfl) (by decide) (by decide) (Or.inl rfl) (tmX11_isNumber e2) ?_
  refine pr_if_ne (tgt := 15) dX11_day_6 rfl (by decide) (fun c_3 => ?_) (fun c_3 => ?_)
  · have h := pm_ng c_3 h
    refine pr_iload_n dX11_day_15 rfl ?_
    refine pr_iconst dX11_day_16 ?_
    obtain ⟨q4, e5, h⟩ := pm_bs h
    refine pr_callS (av := [pv_i x2, pv_i 3]) (S := []) dX11_day_17 mk_X11_65 rfl rfl (Nat.le_of_ble_eq_true rfl) (by decide) (by decide) (Or.inl rfl) (tmX11_isNumber e5) ?_
    refine pr_if_ne (tgt := 30) dX11_day_20 rfl (by decide) (fun c_6 => ?_) (fun c_6 => ?_)
    · have h := pm_ng c_6 h
      refine pr_iload_n dX11_day_30 rfl ?_
      refine pr_gets dX11_day_31 st_1 lks_X11_73 ?_
      refine pr_iload_n dX11_day_34 rfl ?_
      obtain ⟨g_7, h⟩ := pm_gs h
      refine pr_sald dX11_day_35 st_1 rfl g_7 ?_
      refine pr_icmp_ge (tgt := 46) dX11_day_36 rfl rfl (by decide) (fun c_8 => ?_) (fun c_8 => ?_)
      · have h := pm_pos c_8 h
        refine pr_iload_n dX11_day_46 rfl ?_
        refine pr_gets dX11_day_47 st_2 lks_X11_76 ?_
        refine pr_iload_n dX11_day_50 rfl ?_
        obtain ⟨g_9, h⟩ := pm_gs h
        refine pr_sald dX11_day_51 st_2 rfl g_9 ?_
        refine pr_icmp_le (tgt := 62) dX11_day_52 rfl rfl (by decide) (fun c_10 => ?_) (fun c_10 => ?_)
        · have h := pm_pos c_10 h
          refine pr_aload_n dX11_day_62 rfl ?_
          refine pr_getR dX11_day_63 lk_X11_10 lc_0 rfl ?_
          refine pr_iload_n dX11_day_66 rfl ?_
          refine pr_iload_n dX11_day_67 rfl ?_
          obtain ⟨q11, e12, h⟩ := pm_bs h
          refine pr_callV (As := [pv_i x1, pv_i x2]) (S := []) (t := 1) dX11_day_68 mk_X11_79 lc_1 (ci := 9) (q := (RX9, TX9, 2)) rfl rfl rfl rfl (Nat.le_of_ble_eq_true rfl) (by decide) (by decide) (Or.inl rfl) (tmX9_on e12) ?_
          refine pr_istore dX11_day_71 (by decide) rfl ?_
          refine pr_aload_n dX11_day_73 rfl ?_
          refine pr_getR dX11_day_74 lk_X11_10 lc_0 rfl ?_
          refine pr_iload_n dX11_day_77 rfl ?_
          refine pr_iload_n dX11_day_78 rfl ?_
          refine pr_iload_n dX11_day_79 rfl ?_
          obtain ⟨q13, e14, h⟩ := pm_bs h
          refine pr_callV (As := [pv_i x1, pv_i x2, pv_i x3]) (S := []) (t := 1) dX11_day_80 mk_X11_83 lc_1 (ci := 9) (q := (RX9, TX9, 2)) rfl rfl rfl rfl (Nat.le_of_ble_eq_true rfl) (by decide) (by decide) (Or.inl rfl) (tmX9_tell e14) ?_
          refine pr_iload dX11_day_83 rfl ?_
          have h := Option.some.inj h
          subst h
          exact pr_iret dX11_day_85 rfl
        · have h := pm_ng c_10 h
          refine pr_aload_n dX11_day_55 rfl ?_
          refine pr_bipush dX11_day_56 (by decide) ?_
          obtain ⟨q15, e16, h⟩ := pm_bs h
          refine pr_callV (As := [pv_i (-6)]) (S := []) (t := 0) dX11_day_58 mk_X11_69 lc_0 (ci := 11) (q := (RX11, TX11, 11)) rfl rfl rfl rfl (Nat.le_of_ble_eq_true rfl) (by decide) (by decide) (Or.inl rfl) (tmX11_refuse e16) ?_
          have h := Option.some.inj h
          subst h
          exact pr_iret dX11_day_61 rfl
      · have h := pm_ng c_8 h
        refine pr_aload_n dX11_day_39 rfl ?_
        refine pr_bipush dX11_day_40 (by decide) ?_
        obtain ⟨q17, e18, h⟩ := pm_bs h
        refine pr_callV (As := [pv_i (-4)]) (S := []) (t := 0) dX11_day_42 mk_X11_69 lc_0 (ci := 11) (q := (RX11, TX11, 11)) rfl rfl rfl rfl (Nat.le_of_ble_eq_true rfl) (by decide) (by decide) (Or.inl rfl) (tmX11_refuse e18) ?_
        have h := Option.some.inj h
        subst h
        exact pr_iret dX11_day_45 rfl
    · have h := pm_pos c_6 h
      refine pr_aload_n dX11_day_23 rfl ?_
      refine pr_bipush dX11_day_24 (by decide) ?_
      obtain ⟨q19, e20, h⟩ := pm_bs h
      refine pr_callV (As := [pv_i (-2)]) (S := []) (t := 0) dX11_day_26 mk_X11_69 lc_0 (ci := 11) (q := (RX11, TX11, 11)) rfl rfl rfl rfl (Nat.le_of_ble_eq_true rfl) (by decide) (by decide) (Or.inl rfl) (tmX11_refuse e20) ?_
      have h := Option.some.inj h
      subst h
      exact pr_iret dX11_day_29 rfl
  · have h := pm_pos c_3 h
    refine pr_aload_n dX11_day_9 rfl ?_
    refine pr_iconst dX11_day_10 ?_
    obtain ⟨q21, e22, h⟩ := pm_bs h
    refine pr_callV (As := [pv_i (-1)]) (S := []) (t := 0) dX11_day_11 mk_X11_69 lc_0 (ci := 11) (q := (RX11, TX11, 11)) rfl rfl rfl rfl (Nat.le_of_ble_eq_true rfl) (by decide) (by decide) (Or.inl rfl) (tmX11_refuse e22) ?_
    have h := Option.some.inj h
    subst h
    exact pr_iret dX11_day_14 rfl
def fX11_dayOf (x1 : Int) (x2 : Int) (σ : pm_M) : Option (Int × pm_M) :=
  (fX11_isNumber x1 101).bind fun q1 => if (wr q1) = 0 then ((fX11_refuse (-1) σ).bind fun q11 => some (q11.1, q11.2)) else ((fX11_isNumber x2 3).bind fun q4 => if (wr q4) = 0 then ((fX11_refuse (-2) σ).bind fun q9 => some (q9.1, q9.2)) else ((fX9_on x1 x2 σ).bind fun q7 => some (q7, σ)))
set_option maxHeartbeats 4000000 in
set_option maxRecDepth 100000 in
theorem tmX11_dayOf {x1 : Int} {x2 : Int} {σ : pm_M} {ρ : Int × pm_M} (h : fX11_dayOf x1 x2 σ = some ρ) : pm_C mX11_dayOf 1 22 [pv_r 0, pv_i x1, pv_i x2] LAYC σ (some (pv_i ρ.1)) LAYC ρ.2 := by
  refine pm_C.of (by decide) rfl (Nat.le_of_ble_eq_true rfl) ?_
  show pm_J mX11_dayOf 1 22 LAYC (some (pv_i ρ.1)) LAYC ρ.2 0 [some (pv_r 0), some (pv_i x1), some (pv_i x2)] [] LAYC σ
  unfold fX11_dayOf at h
  refine pr_iload_n dX11_dayOf_0 rfl ?_
  refine pr_bipush dX11_dayOf_1 (by decide) ?_
  obtain ⟨q1, e2, h⟩ := pm_bs h
  refine pr_callS (av := [pv_i x1, pv_i 101]) (S := []) dX11_dayOf_3 mk_X11_65 rfl rfl (Nat.le_of_ble_eq_true rfl) (by decide) (by decide) (Or.inl rfl) (tmX11_isNumber e2) ?_
  refine pr_if_ne (tgt := 15) dX11_dayOf_6 rfl (by decide) (fun c_3 => ?_) (fun c_3 => ?_)
  · have h := pm_ng c_3 h
    refine pr_iload_n dX11_dayOf_15 rfl ?_
    refine pr_iconst dX11_dayOf_16 ?_
    obtain ⟨q4, e5, h⟩ := pm_bs h
    refine pr_callS (av := [pv_i x2, pv_i 3]) (S := []) dX11_dayOf_17 mk_X11_65 rfl rfl (Nat.le_of_ble_eq_true rfl) (by decide) (by decide) (Or.inl rfl) (tmX11_isNumber e5) ?_
    refine pr_if_ne (tgt := 30) dX11_dayOf_20 rfl (by decide) (fun c_6 => ?_) (fun c_6 => ?_)
    · have h := pm_ng c_6 h
      refine pr_aload_n dX11_dayOf_30 rfl ?_
      refine pr_getR dX11_dayOf_31 lk_X11_10 lc_0 rfl ?_
      refine pr_iload_n dX11_dayOf_34 rfl ?_
      refine pr_iload_n dX11_dayOf_35 rfl ?_
      obtain ⟨q7, e8, h⟩ := pm_bs h
      refine pr_callV (As := [pv_i x1, pv_i x2]) (S := []) (t := 1) dX11_dayOf_36 mk_X11_79 lc_1 (ci := 9) (q := (RX9, TX9, 2)) rfl rfl rfl rfl (Nat.le_of_ble_eq_true rfl) (by decide) (by decide) (Or.inl rfl) (tmX9_on e8) ?_
      have h := Option.some.inj h
      subst h
      exact pr_iret dX11_dayOf_39 rfl
    · have h := pm_pos c_6 h
      refine pr_aload_n dX11_dayOf_23 rfl ?_
      refine pr_bipush dX11_dayOf_24 (by decide) ?_
      obtain ⟨q9, e10, h⟩ := pm_bs h
      refine pr_callV (As := [pv_i (-2)]) (S := []) (t := 0) dX11_dayOf_26 mk_X11_69 lc_0 (ci := 11) (q := (RX11, TX11, 11)) rfl rfl rfl rfl (Nat.le_of_ble_eq_true rfl) (by decide) (by decide) (Or.inl rfl) (tmX11_refuse e10) ?_
      have h := Option.some.inj h
      subst h
      exact pr_iret dX11_dayOf_29 rfl
  · have h := pm_pos c_3 h
    refine pr_aload_n dX11_dayOf_9 rfl ?_
    refine pr_iconst dX11_dayOf_10 ?_
    obtain ⟨q11, e12, h⟩ := pm_bs h
    refine pr_callV (As := [pv_i (-1)]) (S := []) (t := 0) dX11_dayOf_11 mk_X11_69 lc_0 (ci := 11) (q := (RX11, TX11, 11)) rfl rfl rfl rfl (Nat.le_of_ble_eq_true rfl) (by decide) (by decide) (Or.inl rfl) (tmX11_refuse e12) ?_
    have h := Option.some.inj h
    subst h
    exact pr_iret dX11_dayOf_14 rfl
def fX11_kind (x1 : Int) (x2 : Int) (x3 : Int) (x4 : Int) (σ : pm_M) : Option (Int × pm_M) :=
  (fX11_isNumber x1 9).bind fun q1 => if (wr q1) = 0 then ((fX11_refuse (-1) σ).bind fun q25 => some (q25.1, q25.2)) else (if (wr x2) < 0 then ((fX11_refuse (-4) σ).bind fun q5 => some (q5.1, q5.2)) else (if (wr x3) < 1 then ((fX11_refuse (-4) σ).bind fun q8 => some (q8.1, q8.2)) else (if 1 ≤ (wr x4) then (if 20 < (wr x2) then ((fX11_refuse (-6) σ).bind fun q12 => some (q12.1, q12.2)) else (if 40 < (wr x3) then ((fX11_refuse (-6) σ).bind fun q15 => some (q15.1, q15.2)) else (if (wr x4) ≤ 30 then (pm_g (0 ≤ (wr x1) ∧ (wr x1) < 9) (pm_g (0 ≤ (wr x1) ∧ (wr x1) < 9) (pm_g (0 ≤ (wr x1) ∧ (wr x1) < 9) (some (1, (pm_up (pm_up (pm_up σ 11 (Int.toNat (wr x1)) x2) 12 (Int.toNat (wr x1)) x3) 13 (Int.toNat (wr x1)) x4)))))) else ((fX11_refuse (-6) σ).bind fun q21 => some (q21.1, q21.2))))) else ((fX11_refuse (-4) σ).bind fun q23 => some (q23.1, q23.2)))))
set_option maxHeartbeats 4000000 in
set_option maxRecDepth 100000 in
theorem tmX11_kind {x1 : Int} {x2 : Int} {x3 : Int} {x4 : Int} {σ : pm_M} {ρ : Int × pm_M} (h : fX11_kind x1 x2 x3 x4 σ = some ρ) : pm_C mX11_kind 1 21 [pv_r 0, pv_i x1, pv_i x2, pv_i x3, pv_i x4] LAYC σ (some (pv_i ρ.1)) LAYC ρ.2 := by
  refine pm_C.of (by decide) rfl (Nat.le_of_ble_eq_true rfl) ?_
  show pm_J mX11_kind 1 21 LAYC (some (pv_i ρ.1)) LAYC ρ.2 0 [some (pv_r 0), some (pv_i x1), some (pv_i x2), some (pv_i x3), some (pv_i x4)] [] LAYC σ
  unfold fX11_kind at h
  refine pr_iload_n dX11_kind_0 rfl ?_
  refine pr_bipush dX11_kind_1 (by decide) ?_
  obtain ⟨q1, e2, h⟩ := pm_bs h
  refine pr_callS (av := [pv_i x1, pv_i 9]) (S := []) dX11_kind_3 mk_X11_65 rfl rfl (Nat.le_of_ble_eq_true rfl) (by decide) (by decide) (Or.inl rfl) (tmX11_isNumber e2) ?_
  refine pr_if_ne (tgt := 15) dX11_kind_6 rfl (by decide) (fun c_3 => ?_) (fun c_3 => ?_)
  · have h := pm_ng c_3 h
    refine pr_iload_n dX11_kind_15 rfl ?_
    refine pr_if_lt (tgt := 30) dX11_kind_16 rfl (by decide) (fun c_4 => ?_) (fun c_4 => ?_)
    · have h := pm_pos c_4 h
      refine pr_aload_n dX11_kind_30 rfl ?_
      refine pr_bipush dX11_kind_31 (by decide) ?_
      obtain ⟨q5, e6, h⟩ := pm_bs h
      refine pr_callV (As := [pv_i (-4)]) (S := []) (t := 0) dX11_kind_33 mk_X11_69 lc_0 (ci := 11) (q := (RX11, TX11, 11)) rfl rfl rfl rfl (Nat.le_of_ble_eq_true rfl) (by decide) (by decide) (Or.inl rfl) (tmX11_refuse e6) ?_
      have h := Option.some.inj h
      subst h
      exact pr_iret dX11_kind_36 rfl
    · have h := pm_ng c_4 h
      refine pr_iload_n dX11_kind_19 rfl ?_
      refine pr_iconst dX11_kind_20 ?_
      refine pr_icmp_lt (tgt := 30) dX11_kind_21 rfl (wr_eq (by decide) (by decide)) (by decide) (fun c_7 => ?_) (fun c_7 => ?_)
      · have h := pm_pos c_7 h
        refine pr_aload_n dX11_kind_30 rfl ?_
        refine pr_bipush dX11_kind_31 (by decide) ?_
        obtain ⟨q8, e9, h⟩ := pm_bs h
        refine pr_callV (As := [pv_i (-4)]) (S := []) (t := 0) dX11_kind_33 mk_X11_69 lc_0 (ci := 11) (q := (RX11, TX11, 11)) rfl rfl rfl rfl (Nat.le_of_ble_eq_true rfl) (by decide) (by decide) (Or.inl rfl) (tmX11_refuse e9) ?_
        have h := Option.some.inj h
        subst h
        exact pr_iret dX11_kind_36 rfl
      · have h := pm_ng c_7 h
        refine pr_iload dX11_kind_24 rfl ?_
        refine pr_iconst dX11_kind_26 ?_
        refine pr_icmp_ge (tgt := 37) dX11_kind_27 rfl (wr_eq (by decide) (by decide)) (by decide) (fun c_10 => ?_) (fun c_10 => ?_)
        · have h := pm_pos c_10 h
          refine pr_iload_n dX11_kind_37 rfl ?_
          refine pr_bipush dX11_kind_38 (by decide) ?_
          refine pr_icmp_gt (tgt := 56) dX11_kind_40 rfl (wr_eq (by decide) (by decide)) (by decide) (fun c_11 => ?_) (fun c_11 => ?_)
          · have h := pm_pos c_11 h
            refine pr_aload_n dX11_kind_56 rfl ?_
            refine pr_bipush dX11_kind_57 (by decide) ?_
            obtain ⟨q12, e13, h⟩ := pm_bs h
            refine pr_callV (As := [pv_i (-6)]) (S := []) (t := 0) dX11_kind_59 mk_X11_69 lc_0 (ci := 11) (q := (RX11, TX11, 11)) rfl rfl rfl rfl (Nat.le_of_ble_eq_true rfl) (by decide) (by decide) (Or.inl rfl) (tmX11_refuse e13) ?_
            have h := Option.some.inj h
            subst h
            exact pr_iret dX11_kind_62 rfl
          · have h := pm_ng c_11 h
            refine pr_iload_n dX11_kind_43 rfl ?_
            refine pr_bipush dX11_kind_44 (by decide) ?_
            refine pr_icmp_gt (tgt := 56) dX11_kind_46 rfl (wr_eq (by decide) (by decide)) (by decide) (fun c_14 => ?_) (fun c_14 => ?_)
            · have h := pm_pos c_14 h
              refine pr_aload_n dX11_kind_56 rfl ?_
              refine pr_bipush dX11_kind_57 (by decide) ?_
              obtain ⟨q15, e16, h⟩ := pm_bs h
              refine pr_callV (As := [pv_i (-6)]) (S := []) (t := 0) dX11_kind_59 mk_X11_69 lc_0 (ci := 11) (q := (RX11, TX11, 11)) rfl rfl rfl rfl (Nat.le_of_ble_eq_true rfl) (by decide) (by decide) (Or.inl rfl) (tmX11_refuse e16) ?_
              have h := Option.some.inj h
              subst h
              exact pr_iret dX11_kind_62 rfl
            · have h := pm_ng c_14 h
              refine pr_iload dX11_kind_49 rfl ?_
              refine pr_bipush dX11_kind_51 (by decide) ?_
              refine pr_icmp_le (tgt := 63) dX11_kind_53 rfl (wr_eq (by decide) (by decide)) (by decide) (fun c_17 => ?_) (fun c_17 => ?_)
              · have h := pm_pos c_17 h
                refine pr_aload_n dX11_kind_63 rfl ?_
                refine pr_getR dX11_kind_64 lk_X11_19 lc_0 rfl ?_
                refine pr_getR dX11_kind_67 lk_X11_87 lc_10 rfl ?_
                refine pr_iload_n dX11_kind_70 rfl ?_
                refine pr_iload_n dX11_kind_71 rfl ?_
                obtain ⟨g_18, h⟩ := pm_gs h
                refine pr_iast dX11_kind_72 lc_11 rfl g_18 ?_
                refine pr_aload_n dX11_kind_73 rfl ?_
                refine pr_getR dX11_kind_74 lk_X11_19 lc_0 rfl ?_
                refine pr_getR dX11_kind_77 lk_X11_90 lc_10 rfl ?_
                refine pr_iload_n dX11_kind_80 rfl ?_
                refine pr_iload_n dX11_kind_81 rfl ?_
                obtain ⟨g_19, h⟩ := pm_gs h
                refine pr_iast dX11_kind_82 lc_12 rfl g_19 ?_
                refine pr_aload_n dX11_kind_83 rfl ?_
                refine pr_getR dX11_kind_84 lk_X11_19 lc_0 rfl ?_
                refine pr_getR dX11_kind_87 lk_X11_93 lc_10 rfl ?_
                refine pr_iload_n dX11_kind_90 rfl ?_
                refine pr_iload dX11_kind_91 rfl ?_
                obtain ⟨g_20, h⟩ := pm_gs h
                refine pr_iast dX11_kind_93 lc_13 rfl g_20 ?_
                refine pr_iconst dX11_kind_94 ?_
                have h := Option.some.inj h
                subst h
                exact pr_iret dX11_kind_95 rfl
              · have h := pm_ng c_17 h
                refine pr_aload_n dX11_kind_56 rfl ?_
                refine pr_bipush dX11_kind_57 (by decide) ?_
                obtain ⟨q21, e22, h⟩ := pm_bs h
                refine pr_callV (As := [pv_i (-6)]) (S := []) (t := 0) dX11_kind_59 mk_X11_69 lc_0 (ci := 11) (q := (RX11, TX11, 11)) rfl rfl rfl rfl (Nat.le_of_ble_eq_true rfl) (by decide) (by decide) (Or.inl rfl) (tmX11_refuse e22) ?_
                have h := Option.some.inj h
                subst h
                exact pr_iret dX11_kind_62 rfl
        · have h := pm_ng c_10 h
          refine pr_aload_n dX11_kind_30 rfl ?_
          refine pr_bipush dX11_kind_31 (by decide) ?_
          obtain ⟨q23, e24, h⟩ := pm_bs h
          refine pr_callV (As := [pv_i (-4)]) (S := []) (t := 0) dX11_kind_33 mk_X11_69 lc_0 (ci := 11) (q := (RX11, TX11, 11)) rfl rfl rfl rfl (Nat.le_of_ble_eq_true rfl) (by decide) (by decide) (Or.inl rfl) (tmX11_refuse e24) ?_
          have h := Option.some.inj h
          subst h
          exact pr_iret dX11_kind_36 rfl
  · have h := pm_pos c_3 h
    refine pr_aload_n dX11_kind_9 rfl ?_
    refine pr_iconst dX11_kind_10 ?_
    obtain ⟨q25, e26, h⟩ := pm_bs h
    refine pr_callV (As := [pv_i (-1)]) (S := []) (t := 0) dX11_kind_11 mk_X11_69 lc_0 (ci := 11) (q := (RX11, TX11, 11)) rfl rfl rfl rfl (Nat.le_of_ble_eq_true rfl) (by decide) (by decide) (Or.inl rfl) (tmX11_refuse e26) ?_
    have h := Option.some.inj h
    subst h
    exact pr_iret dX11_kind_14 rfl
def fX11_rags (x1 : Int) (x2 : Int) (σ : pm_M) : Option (Int × pm_M) :=
  (fX11_isNumber x1 9).bind fun q1 => if (wr q1) = 0 then ((fX11_refuse (-1) σ).bind fun q14 => some (q14.1, q14.2)) else (if 1 ≤ (wr x2) then (pm_g (0 ≤ (wr x1) ∧ (wr x1) < 9) (if (wr x2) ≤ (wr (20000 - (σ 14 (Int.toNat (wr x1))))) then (pm_g (0 ≤ (wr x1) ∧ (wr x1) < 9) (pm_g (0 ≤ (wr x1) ∧ (wr x1) < 9) (pm_g (0 ≤ (wr x1) ∧ (wr x1) < 9) (some (((pm_up σ 14 (Int.toNat (wr x1)) ((σ 14 (Int.toNat (wr x1))) + x2)) 14 (Int.toNat (wr x1))), (pm_up σ 14 (Int.toNat (wr x1)) ((σ 14 (Int.toNat (wr x1))) + x2))))))) else ((fX11_refuse (-6) σ).bind fun q10 => some (q10.1, q10.2)))) else ((fX11_refuse (-4) σ).bind fun q12 => some (q12.1, q12.2)))
set_option maxHeartbeats 4000000 in
set_option maxRecDepth 100000 in
theorem tmX11_rags {x1 : Int} {x2 : Int} {σ : pm_M} {ρ : Int × pm_M} (h : fX11_rags x1 x2 σ = some ρ) : pm_C mX11_rags 1 21 [pv_r 0, pv_i x1, pv_i x2] LAYC σ (some (pv_i ρ.1)) LAYC ρ.2 := by
  refine pm_C.of (by decide) rfl (Nat.le_of_ble_eq_true rfl) ?_
  show pm_J mX11_rags 1 21 LAYC (some (pv_i ρ.1)) LAYC ρ.2 0 [some (pv_r 0), some (pv_i x1), some (pv_i x2)] [] LAYC σ
  unfold fX11_rags at h
  refine pr_iload_n dX11_rags_0 rfl ?_
  refine pr_bipush dX11_rags_1 (by decide) ?_
  obtain ⟨q1, e2, h⟩ := pm_bs h
  refine pr_callS (av := [pv_i x1, pv_i 9]) (S := []) dX11_rags_3 mk_X11_65 rfl rfl (Nat.le_of_ble_eq_true rfl) (by decide) (by decide) (Or.inl rfl) (tmX11_isNumber e2) ?_
  refine pr_if_ne (tgt := 15) dX11_rags_6 rfl (by decide) (fun c_3 => ?_) (fun c_3 => ?_)
  · have h := pm_ng c_3 h
    refine pr_iload_n dX11_rags_15 rfl ?_
    refine pr_iconst dX11_rags_16 ?_
    refine pr_icmp_ge (tgt := 27) dX11_rags_17 rfl (wr_eq (by decide) (by decide)) (by decide) (fun c_4 => ?_) (fun c_4 => ?_)
    · have h := pm_pos c_4 h
      refine pr_iload_n dX11_rags_27 rfl ?_
      refine pr_sipush dX11_rags_28 (by decide) ?_
      refine pr_aload_n dX11_rags_31 rfl ?_
      refine pr_getR dX11_rags_32 lk_X11_19 lc_0 rfl ?_
      refine pr_getR dX11_rags_35 lk_X11_96 lc_10 rfl ?_
      refine pr_iload_n dX11_rags_38 rfl ?_
      obtain ⟨g_5, h⟩ := pm_gs h
      refine pr_iald dX11_rags_39 lc_14 rfl g_5 ?_
      refine pr_isub dX11_rags_40 ?_
      refine pr_icmp_le (tgt := 51) dX11_rags_41 rfl rfl (by decide) (fun c_6 => ?_) (fun c_6 => ?_)
      · have h := pm_pos c_6 h
        refine pr_aload_n dX11_rags_51 rfl ?_
        refine pr_getR dX11_rags_52 lk_X11_19 lc_0 rfl ?_
        refine pr_getR dX11_rags_55 lk_X11_96 lc_10 rfl ?_
        refine pr_iload_n dX11_rags_58 rfl ?_
        refine pr_dup2 dX11_rags_59 rfl rfl ?_
        obtain ⟨g_7, h⟩ := pm_gs h
        refine pr_iald dX11_rags_60 lc_14 rfl g_7 ?_
        refine pr_iload_n dX11_rags_61 rfl ?_
        refine pr_iadd dX11_rags_62 ?_
        obtain ⟨g_8, h⟩ := pm_gs h
        refine pr_iast dX11_rags_63 lc_14 rfl g_8 ?_
        refine pr_aload_n dX11_rags_64 rfl ?_
        refine pr_getR dX11_rags_65 lk_X11_19 lc_0 rfl ?_
        refine pr_getR dX11_rags_68 lk_X11_96 lc_10 rfl ?_
        refine pr_iload_n dX11_rags_71 rfl ?_
        obtain ⟨g_9, h⟩ := pm_gs h
        refine pr_iald dX11_rags_72 lc_14 rfl g_9 ?_
        have h := Option.some.inj h
        subst h
        exact pr_iret dX11_rags_73 rfl
      · have h := pm_ng c_6 h
        refine pr_aload_n dX11_rags_44 rfl ?_
        refine pr_bipush dX11_rags_45 (by decide) ?_
        obtain ⟨q10, e11, h⟩ := pm_bs h
        refine pr_callV (As := [pv_i (-6)]) (S := []) (t := 0) dX11_rags_47 mk_X11_69 lc_0 (ci := 11) (q := (RX11, TX11, 11)) rfl rfl rfl rfl (Nat.le_of_ble_eq_true rfl) (by decide) (by decide) (Or.inl rfl) (tmX11_refuse e11) ?_
        have h := Option.some.inj h
        subst h
        exact pr_iret dX11_rags_50 rfl
    · have h := pm_ng c_4 h
      refine pr_aload_n dX11_rags_20 rfl ?_
      refine pr_bipush dX11_rags_21 (by decide) ?_
      obtain ⟨q12, e13, h⟩ := pm_bs h
      refine pr_callV (As := [pv_i (-4)]) (S := []) (t := 0) dX11_rags_23 mk_X11_69 lc_0 (ci := 11) (q := (RX11, TX11, 11)) rfl rfl rfl rfl (Nat.le_of_ble_eq_true rfl) (by decide) (by decide) (Or.inl rfl) (tmX11_refuse e13) ?_
      have h := Option.some.inj h
      subst h
      exact pr_iret dX11_rags_26 rfl
  · have h := pm_pos c_3 h
    refine pr_aload_n dX11_rags_9 rfl ?_
    refine pr_iconst dX11_rags_10 ?_
    obtain ⟨q14, e15, h⟩ := pm_bs h
    refine pr_callV (As := [pv_i (-1)]) (S := []) (t := 0) dX11_rags_11 mk_X11_69 lc_0 (ci := 11) (q := (RX11, TX11, 11)) rfl rfl rfl rfl (Nat.le_of_ble_eq_true rfl) (by decide) (by decide) (Or.inl rfl) (tmX11_refuse e15) ?_
    have h := Option.some.inj h
    subst h
    exact pr_iret dX11_rags_14 rfl
