def fX11_refuse (x1 : Int) (σ : pm_M) : Option (Int × pm_M) :=
  pm_g (0 ≤ (wr (-x1)) ∧ (wr (-x1)) < 7) (pm_g (0 ≤ (wr (-x1)) ∧ (wr (-x1)) < 7) (some (x1, (pm_up σ 93 (Int.toNat (wr (-x1))) ((σ 93 (Int.toNat (wr (-x1)))) + 1)))))
set_option maxHeartbeats 4000000 in
set_option maxRecDepth 100000 in
theorem tmX11_refuse {x1 : Int} {σ : pm_M} {ρ : Int × pm_M} (h : fX11_refuse x1 σ = some ρ) : pm_C mX11_refuse 0 0 [pv_r 0, pv_i x1] LAYC σ (some (pv_i ρ.1)) LAYC ρ.2 := by
  refine pm_C.of rfl rfl (by decide) ?_
  show pm_J mX11_refuse 0 0 LAYC (some (pv_i ρ.1)) LAYC ρ.2 0 [some (pv_r 0), some (pv_i x1)] [] LAYC σ
  unfold fX11_refuse at h
  refine pr_aload_n dX11_refuse_0 rfl ?_
  refine pr_getR dX11_refuse_1 lk_X11_62 lc_0 rfl ?_
  refine pr_iload_n dX11_refuse_4 rfl ?_
  refine pr_ineg dX11_refuse_5 ?_
  refine pr_dup2 dX11_refuse_6 rfl rfl ?_
  obtain ⟨g_1, h⟩ := pm_gs h
  refine pr_iald dX11_refuse_7 lc_93 rfl g_1 ?_
  refine pr_iconst dX11_refuse_8 ?_
  refine pr_iadd dX11_refuse_9 ?_
  obtain ⟨g_2, h⟩ := pm_gs h
  refine pr_iast dX11_refuse_10 lc_93 rfl g_2 ?_
  refine pr_iload_n dX11_refuse_11 rfl ?_
  have h := Option.some.inj h
  subst h
  exact pr_iret dX11_refuse_12 rfl
def fX11_day (x1 : Int) (x2 : Int) (x3 : Int) (σ : pm_M) : Option (Int × pm_M) :=
  (fX11_isNumber x1 101).bind fun q1 => if (wr q1) = 0 then ((fX11_refuse (-1) σ).bind fun q21 => some (q21.1, q21.2)) else ((fX11_isNumber x2 3).bind fun q4 => if (wr q4) = 0 then ((fX11_refuse (-2) σ).bind fun q19 => some (q19.1, q19.2)) else (pm_g (0 ≤ (wr x2) ∧ (wr x2) < 3) (if (wr (([-1, -1, 0] : List Int).getD (Int.toNat (wr x2)) 0)) ≤ (wr x3) then (pm_g (0 ≤ (wr x2) ∧ (wr x2) < 3) (if (wr x3) ≤ (wr (([60, 9, 1] : List Int).getD (Int.toNat (wr x2)) 0)) then ((fX9_on x1 x2 σ).bind fun q11 => (fX9_tell x1 x2 x3 σ).bind fun q13 => some (q11, q13)) else ((fX11_refuse (-6) σ).bind fun q15 => some (q15.1, q15.2)))) else ((fX11_refuse (-4) σ).bind fun q17 => some (q17.1, q17.2)))))
set_option maxHeartbeats 4000000 in
set_option maxRecDepth 100000 in
theorem tmX11_day {x1 : Int} {x2 : Int} {x3 : Int} {σ : pm_M} {ρ : Int × pm_M} (h : fX11_day x1 x2 x3 σ = some ρ) : pm_C mX11_day 3 70 [pv_r 0, pv_i x1, pv_i x2, pv_i x3] LAYC σ (some (pv_i ρ.1)) LAYC ρ.2 := by
  refine pm_C.of rfl rfl (by decide) ?_
  show pm_J mX11_day 3 70 LAYC (some (pv_i ρ.1)) LAYC ρ.2 0 [some (pv_r 0), some (pv_i x1), some (pv_i x2), some (pv_i x3), none] [] LAYC σ
  unfold fX11_day at h
  refine pr_iload_n dX11_day_0 rfl ?_
  refine pr_bipush dX11_day_1 (by decide) ?_
  obtain ⟨q1, e2, h⟩ := pm_bs h
  refine pr_callS (av := [pv_i x1, pv_i 101]) (S := []) dX11_day_3 mk_X11_65 rfl rfl (by decide) (by decide) (by decide) (Or.inl rfl) (tmX11_isNumber e2) ?_
  refine pr_if_ne (tgt := 15) dX11_day_6 rfl (by decide) (fun c_3 => ?_) (fun c_3 => ?_)
  · have h := pm_ng c_3 h
    refine pr_iload_n dX11_day_15 rfl ?_
    refine pr_iconst dX11_day_16 ?_
    obtain ⟨q4, e5, h⟩ := pm_bs h
    refine pr_callS (av := [pv_i x2, pv_i 3]) (S := []) dX11_day_17 mk_X11_65 rfl rfl (by decide) (by decide) (by decide) (Or.inl rfl) (tmX11_isNumber e5) ?_
    refine pr_if_ne (tgt := 30) dX11_day_20 rfl (by decide) (fun c_6 => ?_) (fun c_6 => ?_)
    · have h := pm_ng c_6 h
      refine pr_iload_n dX11_day_30 rfl ?_
      refine pr_gets dX11_day_31 st_1 lks_X11_73 ?_
      refine pr_iload_n dX11_day_34 rfl ?_
      obtain ⟨g_7, h⟩ := pm_gs h
      refine pr_sald dX11_day_35 st_1 rfl g_7 ?_
      refine pr_icmp_ge (tgt := 46) dX11_day_36 rfl rfl (by decide) (fun c_8 => ?_) (fun c_8 => ?_)
      · have h := pm_pos c_8 h
        refine pr_iload_n dX11_day_46 rfl ?_
        refine pr_gets dX11_day_47 st_2 lks_X11_76 ?_
        refine pr_iload_n dX11_day_50 rfl ?_
        obtain ⟨g_9, h⟩ := pm_gs h
        refine pr_sald dX11_day_51 st_2 rfl g_9 ?_
        refine pr_icmp_le (tgt := 62) dX11_day_52 rfl rfl (by decide) (fun c_10 => ?_) (fun c_10 => ?_)
        · have h := pm_pos c_10 h
          refine pr_aload_n dX11_day_62 rfl ?_
          refine pr_getR dX11_day_63 lk_X11_10 lc_0 rfl ?_
          refine pr_iload_n dX11_day_66 rfl ?_
          refine pr_iload_n dX11_day_67 rfl ?_
          obtain ⟨q11, e12, h⟩ := pm_bs h
          refine pr_callV (As := [pv_i x1, pv_i x2]) (S := []) (t := 1) dX11_day_68 mk_X11_79 lc_1 (ci := 9) (q := (RX9, TX9, 2)) rfl rfl rfl rfl (by decide) (by decide) (by decide) (Or.inl rfl) (tmX9_on e12) ?_
          refine pr_istore dX11_day_71 (by decide) rfl ?_
          refine pr_aload_n dX11_day_73 rfl ?_
          refine pr_getR dX11_day_74 lk_X11_10 lc_0 rfl ?_
          refine pr_iload_n dX11_day_77 rfl ?_
          refine pr_iload_n dX11_day_78 rfl ?_
          refine pr_iload_n dX11_day_79 rfl ?_
          obtain ⟨q13, e14, h⟩ := pm_bs h
          refine pr_callV (As := [pv_i x1, pv_i x2, pv_i x3]) (S := []) (t := 1) dX11_day_80 mk_X11_83 lc_1 (ci := 9) (q := (RX9, TX9, 2)) rfl rfl rfl rfl (by decide) (by decide) (by decide) (Or.inl rfl) (tmX9_tell e14) ?_
          refine pr_iload dX11_day_83 rfl ?_
          have h := Option.some.inj h
          subst h
          exact pr_iret dX11_day_85 rfl
        · have h := pm_ng c_10 h
          refine pr_aload_n dX11_day_55 rfl ?_
          refine pr_bipush dX11_day_56 (by decide) ?_
          obtain ⟨q15, e16, h⟩ := pm_bs h
          refine pr_callV (As := [pv_i (-6)]) (S := []) (t := 0) dX11_day_58 mk_X11_69 lc_0 (ci := 11) (q := (RX11, TX11, 11)) rfl rfl rfl rfl (by decide) (by decide) (by decide) (Or.inl rfl) (tmX11_refuse e16) ?_
          have h := Option.some.inj h
          subst h
          exact pr_iret dX11_day_61 rfl
      · have h := pm_ng c_8 h
        refine pr_aload_n dX11_day_39 rfl ?_
        refine pr_bipush dX11_day_40 (by decide) ?_
        obtain ⟨q17, e18, h⟩ := pm_bs h
        refine pr_callV (As := [pv_i (-4)]) (S := []) (t := 0) dX11_day_42 mk_X11_69 lc_0 (ci := 11) (q := (RX11, TX11, 11)) rfl rfl rfl rfl (by decide) (by decide) (by decide) (Or.inl rfl) (tmX11_refuse e18) ?_
        have h := Option.some.inj h
        subst h
        exact pr_iret dX11_day_45 rfl
    · have h := pm_pos c_6 h
      refine pr_aload_n dX11_day_23 rfl ?_
      refine pr_bipush dX11_day_24 (by decide) ?_
      obtain ⟨q19, e20, h⟩ := pm_bs h
      refine pr_callV (As := [pv_i (-2)]) (S := []) (t := 0) dX11_day_26 mk_X11_69 lc_0 (ci := 11) (q := (RX11, TX11, 11)) rfl rfl rfl rfl (by decide) (by decide) (by decide) (Or.inl rfl) (tmX11_refuse e20) ?_
      have h := Option.some.inj h
      subst h
      exact pr_iret dX11_day_29 rfl
  · have h := pm_pos c_3 h
    refine pr_aload_n dX11_day_9 rfl ?_
    refine pr_iconst dX11_day_10 ?_
    obtain ⟨q21, e22, h⟩ := pm_bs h
    refine pr_callV (As := [pv_i (-1)]) (S := []) (t := 0) dX11_day_11 mk_X11_69 lc_0 (ci := 11) (q := (RX11, TX11, 11)) rfl rfl rfl rfl (by decide) (by decide) (by decide) (Or.inl rfl) (tmX11_refuse e22) ?_
    have h := Option.some.inj h
    subst h
    exact pr_iret dX11_day_14 rfl
def fX11_dayOf (x1 : Int) (x2 : Int) (σ : pm_M) : Option (Int × pm_M) :=
  (fX11_isNumber x1 101).bind fun q1 => if (wr q1) = 0 then ((fX11_refuse (-1) σ).bind fun q11 => some (q11.1, q11.2)) else ((fX11_isNumber x2 3).bind fun q4 => if (wr q4) = 0 then ((fX11_refuse (-2) σ).bind fun q9 => some (q9.1, q9.2)) else ((fX9_on x1 x2 σ).bind fun q7 => some (q7, σ)))
set_option maxHeartbeats 4000000 in
set_option maxRecDepth 100000 in
theorem tmX11_dayOf {x1 : Int} {x2 : Int} {σ : pm_M} {ρ : Int × pm_M} (h : fX11_dayOf x1 x2 σ = some ρ) : pm_C mX11_dayOf 1 22 [pv_r 0, pv_i x1, pv_i x2] LAYC σ (some (pv_i ρ.1)) LAYC ρ.2 := by
  refine pm_C.of rfl rfl (by decide) ?_
  show pm_J mX11_dayOf 1 22 LAYC (some (pv_i ρ.1)) LAYC ρ.2 0 [some (pv_r 0), some (pv_i x1), some (pv_i x2)] [] LAYC σ
  unfold fX11_dayOf at h
  refine pr_iload_n dX11_dayOf_0 rfl ?_
  refine pr_bipush dX11_dayOf_1 (by decide) ?_
  obtain ⟨q1, e2, h⟩ := pm_bs h
  refine pr_callS (av := [pv_i x1, pv_i 101]) (S := []) dX11_dayOf_3 mk_X11_65 rfl rfl (by decide) (by decide) (by decide) (Or.inl rfl) (tmX11_isNumber e2) ?_
  refine pr_if_ne (tgt := 15) dX11_dayOf_6 rfl (by decide) (fun c_3 => ?_) (fun c_3 => ?_)
  · have h := pm_ng c_3 h
    refine pr_iload_n dX11_dayOf_15 rfl ?_
    refine pr_iconst dX11_dayOf_16 ?_
    obtain ⟨q4, e5, h⟩ := pm_bs h
    refine pr_callS (av := [pv_i x2, pv_i 3]) (S := []) dX11_dayOf_17 mk_X11_65 rfl rfl (by decide) (by decide) (by decide) (Or.inl rfl) (tmX11_isNumber e5) ?_
    refine pr_if_ne (tgt := 30) dX11_dayOf_20 rfl (by decide) (fun c_6 => ?_) (fun c_6 => ?_)
    · have h := pm_ng c_6 h
      refine pr_aload_n dX11_dayOf_30 rfl ?_
      refine pr_getR dX11_dayOf_31 lk_X11_10 lc_0 rfl ?_
      refine pr_iload_n dX11_dayOf_34 rfl ?_
      refine pr_iload_n dX11_dayOf_35 rfl ?_
      obtain ⟨q7, e8, h⟩ := pm_bs h
      refine pr_callV (As := [pv_i x1, pv_i x2]) (S := []) (t := 1) dX11_dayOf_36 mk_X11_79 lc_1 (ci := 9) (q := (RX9, TX9, 2)) rfl rfl rfl rfl (by decide) (by decide) (by decide) (Or.inl rfl) (tmX9_on e8) ?_
      have h := Option.some.inj h
      subst h
      exact pr_iret dX11_dayOf_39 rfl
    · have h := pm_pos c_6 h
      refine pr_aload_n dX11_dayOf_23 rfl ?_
      refine pr_bipush dX11_dayOf_24 (by decide) ?_
      obtain ⟨q9, e10, h⟩ := pm_bs h
      refine pr_callV (As := [pv_i (-2)]) (S := []) (t := 0) dX11_dayOf_26 mk_X11_69 lc_0 (ci := 11) (q := (RX11, TX11, 11)) rfl rfl rfl rfl (by decide) (by decide) (by decide) (Or.inl rfl) (tmX11_refuse e10) ?_
      have h := Option.some.inj h
      subst h
      exact pr_iret dX11_dayOf_29 rfl
  · have h := pm_pos c_3 h
    refine pr_aload_n dX11_dayOf_9 rfl ?_
    refine pr_iconst dX11_dayOf_10 ?_
    obtain ⟨q11, e12, h⟩ := pm_bs h
    refine pr_callV (As := [pv_i (-1)]) (S := []) (t := 0) dX11_dayOf_11 mk_X11_69 lc_0 (ci := 11) (q := (RX11, TX11, 11)) rfl rfl rfl rfl (by decide) (by decide) (by decide) (Or.inl rfl) (tmX11_refuse e12) ?_
    have h := Option.some.inj h
    subst h
    exact pr_iret dX11_dayOf_14 rfl
def fX11_kind (x1 : Int) (x2 : Int) (x3 : Int) (x4 : Int) (σ : pm_M) : Option (Int × pm_M) :=
  (fX11_isNumber x1 9).bind fun q1 => if (wr q1) = 0 then ((fX11_refuse (-1) σ).bind fun q25 => some (q25.1, q25.2)) else (if (wr x2) < 0 then ((fX11_refuse (-4) σ).bind fun q5 => some (q5.1, q5.2)) else (if (wr x3) < 1 then ((fX11_refuse (-4) σ).bind fun q8 => some (q8.1, q8.2)) else (if 1 ≤ (wr x4) then (if 20 < (wr x2) then ((fX11_refuse (-6) σ).bind fun q12 => some (q12.1, q12.2)) else (if 40 < (wr x3) then ((fX11_refuse (-6) σ).bind fun q15 => some (q15.1, q15.2)) else (if (wr x4) ≤ 30 then (pm_g (0 ≤ (wr x1) ∧ (wr x1) < 9) (pm_g (0 ≤ (wr x1) ∧ (wr x1) < 9) (pm_g (0 ≤ (wr x1) ∧ (wr x1) < 9) (some (1, (pm_up (pm_up (pm_up σ 11 (Int.toNat (wr x1)) x2) 12 (Int.toNat (wr x1)) x3) 13 (Int.toNat (wr x1)) x4)))))) else ((fX11_refuse (-6) σ).bind fun q21 => some (q21.1, q21.2))))) else ((fX11_refuse (-4) σ).bind fun q23 => some (q23.1, q23.2)))))
set_option maxHeartbeats 4000000 in
set_option maxRecDepth 100000 in
theorem tmX11_kind {x1 : Int} {x2 : Int} {x3 : Int} {x4 : Int} {σ : pm_M} {ρ : Int × pm_M} (h : fX11_kind x1 x2 x3 x4 σ = some ρ) : pm_C mX11_kind 1 21 [pv_r 0, pv_i x1, pv_i x2, pv_i x3, pv_i x4] LAYC σ (some (pv_i ρ.1)) LAYC ρ.2 := by
  refine pm_C.of rfl rfl (by decide) ?_
  show pm_J mX11_kind 1 21 LAYC (some (pv_i ρ.1)) LAYC ρ.2 0 [some (pv_r 0), some (pv_i x1), some (pv_i x2), some (pv_i x3), some (pv_i x4)] [] LAYC σ
  unfold fX11_kind at h
  refine pr_iload_n dX11_kind_0 rfl ?_
  refine pr_bipush dX11_kind_1 (by decide) ?_
  obtain ⟨q1, e2, h⟩ := pm_bs h
  refine pr_callS (av := [pv_i x1, pv_i 9]) (S := []) dX11_kind_3 mk_X11_65 rfl rfl (by decide) (by decide) (by decide) (Or.inl rfl) (tmX11_isNumber e2) ?_
  refine pr_if_ne (tgt := 15) dX11_kind_6 rfl (by decide) (fun c_3 => ?_) (fun c_3 => ?_)
  · have h := pm_ng c_3 h
    refine pr_iload_n dX11_kind_15 rfl ?_
    refine pr_if_lt (tgt := 30) dX11_kind_16 rfl (by decide) (fun c_4 => ?_) (fun c_4 => ?_)
    · have h := pm_pos c_4 h
      refine pr_aload_n dX11_kind_30 rfl ?_
      refine pr_bipush dX11_kind_31 (by decide) ?_
      obtain ⟨q5, e6, h⟩ := pm_bs h
      refine pr_callV (As := [pv_i (-4)]) (S := []) (t := 0) dX11_kind_33 mk_X11_69 lc_0 (ci := 11) (q := (RX11, TX11, 11)) rfl rfl rfl rfl (by decide) (by decide) (by decide) (Or.inl rfl) (tmX11_refuse e6) ?_
      have h := Option.some.inj h
      subst h
      exact pr_iret dX11_kind_36 rfl
    · have h := pm_ng c_4 h
      refine pr_iload_n dX11_kind_19 rfl ?_
      refine pr_iconst dX11_kind_20 ?_
      refine pr_icmp_lt (tgt := 30) dX11_kind_21 rfl (wr_eq (by decide) (by decide)) (by decide) (fun c_7 => ?_) (fun c_7 => ?_)
      · have h := pm_pos c_7 h
        refine pr_aload_n dX11_kind_30 rfl ?_
        refine pr_bipush dX11_kind_31 (by decide) ?_
        obtain ⟨q8, e9, h⟩ := pm_bs h
        refine pr_callV (As := [pv_i (-4)]) (S := []) (t := 0) dX11_kind_33 mk_X11_69 lc_0 (ci := 11) (q := (RX11, TX11, 11)) rfl rfl rfl rfl (by decide) (by decide) (by decide) (Or.inl rfl) (tmX11_refuse e9) ?_
        have h := Option.some.inj h
        subst h
        exact pr_iret dX11_kind_36 rfl
      · have h := pm_ng c_7 h
        refine pr_iload dX11_kind_24 rfl ?_
        refine pr_iconst dX11_kind_26 ?_
        refine pr_icmp_ge (tgt := 37) dX11_kind_27 rfl (wr_eq (by decide) (by decide)) (by decide) (fun c_10 => ?_) (fun c_10 => ?_)
        · have h := pm_pos c_10 h
          refine pr_iload_n dX11_kind_37 rfl ?_
          refine pr_bipush dX11_kind_38 (by decide) ?_
          refine pr_icmp_gt (tgt := 56) dX11_kind_40 rfl (wr_eq (by decide) (by decide)) (by decide) (fun c_11 => ?_) (fun c_11 => ?_)
          · have h := pm_pos c_11 h
            refine pr_aload_n dX11_kind_56 rfl ?_
            refine pr_bipush dX11_kind_57 (by decide) ?_
            obtain ⟨q12, e13, h⟩ := pm_bs h
            refine pr_callV (As := [pv_i (-6)]) (S := []) (t := 0) dX11_kind_59 mk_X11_69 lc_0 (ci := 11) (q := (RX11, TX11, 11)) rfl rfl rfl rfl (by decide) (by decide) (by decide) (Or.inl rfl) (tmX11_refuse e13) ?_
            have h := Option.some.inj h
            subst h
            exact pr_iret dX11_kind_62 rfl
          · have h := pm_ng c_11 h
            refine pr_iload_n dX11_kind_43 rfl ?_
            refine pr_bipush dX11_kind_44 (by decide) ?_
            refine pr_icmp_gt (tgt := 56) dX11_kind_46 rfl (wr_eq (by decide) (by decide)) (by decide) (fun c_14 => ?_) (fun c_14 => ?_)
            · have h := pm_pos c_14 h
              refine pr_aload_n dX11_kind_56 rfl ?_
              refine pr_bipush dX11_kind_57 (by decide) ?_
              obtain ⟨q15, e16, h⟩ := pm_bs h
              refine pr_callV (As := [pv_i (-6)]) (S := []) (t := 0) dX11_kind_59 mk_X11_69 lc_0 (ci := 11) (q := (RX11, TX11, 11)) rfl rfl rfl rfl (by decide) (by decide) (by decide) (Or.inl rfl) (tmX11_refuse e16) ?_
              have h := Option.some.inj h
              subst h
              exact pr_iret dX11_kind_62 rfl
            · have h := pm_ng c_14 h
              refine pr_iload dX11_kind_49 rfl ?_
              refine pr_bipush dX11_kind_51 (by decide) ?_
              refine pr_icmp_le (tgt := 63) dX11_kind_53 rfl (wr_eq (by decide) (by decide)) (by decide) (fun c_17 => ?_) (fun c_17 => ?_)
              · have h := pm_pos c_17 h
                refine pr_aload_n dX11_kind_63 rfl ?_
                refine pr_getR dX11_kind_64 lk_X11_19 lc_0 rfl ?_
                refine pr_getR dX11_kind_67 lk_X11_87 lc_10 rfl ?_
                refine pr_iload_n dX11_kind_70 rfl ?_
                refine pr_iload_n dX11_kind_71 rfl ?_
                obtain ⟨g_18, h⟩ := pm_gs h
                refine pr_iast dX11_kind_72 lc_11 rfl g_18 ?_
                refine pr_aload_n dX11_kind_73 rfl ?_
                refine pr_getR dX11_kind_74 lk_X11_19 lc_0 rfl ?_
                refine pr_getR dX11_kind_77 lk_X11_90 lc_10 rfl ?_
                refine pr_iload_n dX11_kind_80 rfl ?_
                refine pr_iload_n dX11_kind_81 rfl ?_
                obtain ⟨g_19, h⟩ := pm_gs h
                refine pr_iast dX11_kind_82 lc_12 rfl g_19 ?_
                refine pr_aload_n dX11_kind_83 rfl ?_
                refine pr_getR dX11_kind_84 lk_X11_19 lc_0 rfl ?_
                refine pr_getR dX11_kind_87 lk_X11_93 lc_10 rfl ?_
                refine pr_iload_n dX11_kind_90 rfl ?_
                refine pr_iload dX11_kind_91 rfl ?_
                obtain ⟨g_20, h⟩ := pm_gs h
                refine pr_iast dX11_kind_93 lc_13 rfl g_20 ?_
                refine pr_iconst dX11_kind_94 ?_
                have h := Option.some.inj h
                subst h
                exact pr_iret dX11_kind_95 rfl
              · have h := pm_ng c_17 h
                refine pr_aload_n dX11_kind_56 rfl ?_
                refine pr_bipush dX11_kind_57 (by decide) ?_
                obtain ⟨q21, e22, h⟩ := pm_bs h
                refine pr_callV (As := [pv_i (-6)]) (S := []) (t := 0) dX11_kind_59 mk_X11_69 lc_0 (ci := 11) (q := (RX11, TX11, 11)) rfl rfl rfl rfl (by decide) (by decide) (by decide) (Or.inl rfl) (tmX11_refuse e22) ?_
                have h := Option.some.inj h
                subst h
                exact pr_iret dX11_kind_62 rfl
        · have h := pm_ng c_10 h
          refine pr_aload_n dX11_kind_30 rfl ?_
          refine pr_bipush dX11_kind_31 (by decide) ?_
          obtain ⟨q23, e24, h⟩ := pm_bs h
          refine pr_callV (As := [pv_i (-4)]) (S := []) (t := 0) dX11_kind_33 mk_X11_69 lc_0 (ci := 11) (q := (RX11, TX11, 11)) rfl rfl rfl rfl (by decide) (by decide) (by decide) (Or.inl rfl) (tmX11_refuse e24) ?_
          have h := Option.some.inj h
          subst h
          exact pr_iret dX11_kind_36 rfl
  · have h := pm_pos c_3 h
    refine pr_aload_n dX11_kind_9 rfl ?_
    refine pr_iconst dX11_kind_10 ?_
    obtain ⟨q25, e26, h⟩ := pm_bs h
    refine pr_callV (As := [pv_i (-1)]) (S := []) (t := 0) dX11_kind_11 mk_X11_69 lc_0 (ci := 11) (q := (RX11, TX11, 11)) rfl rfl rfl rfl (by decide) (by decide) (by decide) (Or.inl rfl) (tmX11_refuse e26) ?_
    have h := Option.some.inj h
    subst h
    exact pr_iret dX11_kind_14 rfl
def fX11_rags (x1 : Int) (x2 : Int) (σ : pm_M) : Option (Int × pm_M) :=
  (fX11_isNumber x1 9).bind fun q1 => if (wr q1) = 0 then ((fX11_refuse (-1) σ).bind fun q14 => some (q14.1, q14.2)) else (if 1 ≤ (wr x2) then (pm_g (0 ≤ (wr x1) ∧ (wr x1) < 9) (if (wr x2) ≤ (wr (20000 - (σ 14 (Int.toNat (wr x1))))) then (pm_g (0 ≤ (wr x1) ∧ (wr x1) < 9) (pm_g (0 ≤ (wr x1) ∧ (wr x1) < 9) (pm_g (0 ≤ (wr x1) ∧ (wr x1) < 9) (some (((pm_up σ 14 (Int.toNat (wr x1)) ((σ 14 (Int.toNat (wr x1))) + x2)) 14 (Int.toNat (wr x1))), (pm_up σ 14 (Int.toNat (wr x1)) ((σ 14 (Int.toNat (wr x1))) + x2))))))) else ((fX11_refuse (-6) σ).bind fun q10 => some (q10.1, q10.2)))) else ((fX11_refuse (-4) σ).bind fun q12 => some (q12.1, q12.2)))
set_option maxHeartbeats 4000000 in
set_option maxRecDepth 100000 in
theorem tmX11_rags {x1 : Int} {x2 : Int} {σ : pm_M} {ρ : Int × pm_M} (h : fX11_rags x1 x2 σ = some ρ) : pm_C mX11_rags 1 21 [pv_r 0, pv_i x1, pv_i x2] LAYC σ (some (pv_i ρ.1)) LAYC ρ.2 := by
  refine pm_C.of rfl rfl (by decide) ?_
  show pm_J mX11_rags 1 21 LAYC (some (pv_i ρ.1)) LAYC ρ.2 0 [some (pv_r 0), some (pv_i x1), some (pv_i x2)] [] LAYC σ
  unfold fX11_rags at h
  refine pr_iload_n dX11_rags_0 rfl ?_
  refine pr_bipush dX11_rags_1 (by decide) ?_
  obtain ⟨q1, e2, h⟩ := pm_bs h
  refine pr_callS (av := [pv_i x1, pv_i 9]) (S := []) dX11_rags_3 mk_X11_65 rfl rfl (by decide) (by decide) (by decide) (Or.inl rfl) (tmX11_isNumber e2) ?_
  refine pr_if_ne (tgt := 15) dX11_rags_6 rfl (by decide) (fun c_3 => ?_) (fun c_3 => ?_)
  · have h := pm_ng c_3 h
    refine pr_iload_n dX11_rags_15 rfl ?_
    refine pr_iconst dX11_rags_16 ?_
    refine pr_icmp_ge (tgt := 27) dX11_rags_17 rfl (wr_eq (by decide) (by decide)) (by decide) (fun c_4 => ?_) (fun c_4 => ?_)
    · have h := pm_pos c_4 h
      refine pr_iload_n dX11_rags_27 rfl ?_
      refine pr_sipush dX11_rags_28 (by decide) ?_
      refine pr_aload_n dX11_rags_31 rfl ?_
      refine pr_getR dX11_rags_32 lk_X11_19 lc_0 rfl ?_
      refine pr_getR dX11_rags_35 lk_X11_96 lc_10 rfl ?_
      refine pr_iload_n dX11_rags_38 rfl ?_
      obtain ⟨g_5, h⟩ := pm_gs h
      refine pr_iald dX11_rags_39 lc_14 rfl g_5 ?_
      refine pr_isub dX11_rags_40 ?_
      refine pr_icmp_le (tgt := 51) dX11_rags_41 rfl rfl (by decide) (fun c_6 => ?_) (fun c_6 => ?_)
      · have h := pm_pos c_6 h
        refine pr_aload_n dX11_rags_51 rfl ?_
        refine pr_getR dX11_rags_52 lk_X11_19 lc_0 rfl ?_
        refine pr_getR dX11_rags_55 lk_X11_96 lc_10 rfl ?_
        refine pr_iload_n dX11_rags_58 rfl ?_
        refine pr_dup2 dX11_rags_59 rfl rfl ?_
        obtain ⟨g_7, h⟩ := pm_gs h
        refine pr_iald dX11_rags_60 lc_14 rfl g_7 ?_
        refine pr_iload_n dX11_rags_61 rfl ?_
        refine pr_iadd dX11_rags_62 ?_
        obtain ⟨g_8, h⟩ := pm_gs h
        refine pr_iast dX11_rags_63 lc_14 rfl g_8 ?_
        refine pr_aload_n dX11_rags_64 rfl ?_
        refine pr_getR dX11_rags_65 lk_X11_19 lc_0 rfl ?_
        refine pr_getR dX11_rags_68 lk_X11_96 lc_10 rfl ?_
        refine pr_iload_n dX11_rags_71 rfl ?_
        obtain ⟨g_9, h⟩ := pm_gs h
        refine pr_iald dX11_rags_72 lc_14 rfl g_9 ?_
        have h := Option.some.inj h
        subst h
        exact pr_iret dX11_rags_73 rfl
      · have h := pm_ng c_6 h
        refine pr_aload_n dX11_rags_44 rfl ?_
        refine pr_bipush dX11_rags_45 (by decide) ?_
        obtain ⟨q10, e11, h⟩ := pm_bs h
        refine pr_callV (As := [pv_i (-6)]) (S := []) (t := 0) dX11_rags_47 mk_X11_69 lc_0 (ci := 11) (q := (RX11, TX11, 11)) rfl rfl rfl rfl (by decide) (by decide) (by decide) (Or.inl rfl) (tmX11_refuse e11) ?_
        have h := Option.some.inj h
        subst h
        exact pr_iret dX11_rags_50 rfl
    · have h := pm_ng c_4 h
      refine pr_aload_n dX11_rags_20 rfl ?_
      refine pr_bipush dX11_rags_21 (by decide) ?_
      obtain ⟨q12, e13, h⟩ := pm_bs h
      refine pr_callV (As := [pv_i (-4)]) (S := []) (t := 0) dX11_rags_23 mk_X11_69 lc_0 (ci := 11) (q := (RX11, TX11, 11)) rfl rfl rfl rfl (by decide) (by decide) (by decide) (Or.inl rfl) (tmX11_refuse e13) ?_
      have h := Option.some.inj h
      subst h
      exact pr_iret dX11_rags_26 rfl
  · have h := pm_pos c_3 h
    refine pr_aload_n dX11_rags_9 rfl ?_
    refine pr_iconst dX11_rags_10 ?_
    obtain ⟨q14, e15, h⟩ := pm_bs h
    refine pr_callV (As := [pv_i (-1)]) (S := []) (t := 0) dX11_rags_11 mk_X11_69 lc_0 (ci := 11) (q := (RX11, TX11, 11)) rfl rfl rfl rfl (by decide) (by decide) (by decide) (Or.inl rfl) (tmX11_refuse e15) ?_
    have h := Option.some.inj h
    subst h
    exact pr_iret dX11_rags_14 rfl
def fX11_heap (x1 : Int) (x2 : Int) (σ : pm_M) : Option (Int × pm_M) :=
  (fX11_isNumber x1 9).bind fun q1 => if (wr q1) = 0 then ((fX11_refuse (-1) σ).bind fun q21 => some (q21.1, q21.2)) else (if 1 ≤ (wr x2) then (if 400 < (wr x2) then ((fX11_refuse (-6) σ).bind fun q6 => some (q6.1, q6.2)) else (pm_g (0 ≤ (wr x1) ∧ (wr x1) < 9) (if (wr (σ 14 (Int.toNat (wr x1)))) < (wr x2) then ((fX11_refuse (-6) σ).bind fun q10 => some (q10.1, q10.2)) else (if (wr (σ 43 5)) = 40 then ((fX11_refuse (-6) σ).bind fun q17 => some (q17.1, q17.2)) else (pm_g (0 ≤ (wr x1) ∧ (wr x1) < 9) (pm_g (0 ≤ (wr x1) ∧ (wr x1) < 9) ((fX1_lay 15 x1 x2 ((pm_up σ 14 (Int.toNat (wr x1)) ((σ 14 (Int.toNat (wr x1))) - x2)) 15 7) (pm_up σ 14 (Int.toNat (wr x1)) ((σ 14 (Int.toNat (wr x1))) - x2))).bind fun q15 => some (q15.1, q15.2)))))))) else ((fX11_refuse (-4) σ).bind fun q19 => some (q19.1, q19.2)))
set_option maxHeartbeats 4000000 in
set_option maxRecDepth 100000 in
theorem tmX11_heap {x1 : Int} {x2 : Int} {σ : pm_M} {ρ : Int × pm_M} (h : fX11_heap x1 x2 σ = some ρ) : pm_C mX11_heap 1 23 [pv_r 0, pv_i x1, pv_i x2] LAYC σ (some (pv_i ρ.1)) LAYC ρ.2 := by
  refine pm_C.of rfl rfl (by decide) ?_
  show pm_J mX11_heap 1 23 LAYC (some (pv_i ρ.1)) LAYC ρ.2 0 [some (pv_r 0), some (pv_i x1), some (pv_i x2)] [] LAYC σ
  unfold fX11_heap at h
  refine pr_iload_n dX11_heap_0 rfl ?_
  refine pr_bipush dX11_heap_1 (by decide) ?_
  obtain ⟨q1, e2, h⟩ := pm_bs h
  refine pr_callS (av := [pv_i x1, pv_i 9]) (S := []) dX11_heap_3 mk_X11_65 rfl rfl (by decide) (by decide) (by decide) (Or.inl rfl) (tmX11_isNumber e2) ?_
  refine pr_if_ne (tgt := 15) dX11_heap_6 rfl (by decide) (fun c_3 => ?_) (fun c_3 => ?_)
  · have h := pm_ng c_3 h
    refine pr_iload_n dX11_heap_15 rfl ?_
    refine pr_iconst dX11_heap_16 ?_
    refine pr_icmp_ge (tgt := 27) dX11_heap_17 rfl (wr_eq (by decide) (by decide)) (by decide) (fun c_4 => ?_) (fun c_4 => ?_)
    · have h := pm_pos c_4 h
      refine pr_iload_n dX11_heap_27 rfl ?_
      refine pr_sipush dX11_heap_28 (by decide) ?_
      refine pr_icmp_gt (tgt := 62) dX11_heap_31 rfl (wr_eq (by decide) (by decide)) (by decide) (fun c_5 => ?_) (fun c_5 => ?_)
      · have h := pm_pos c_5 h
        refine pr_aload_n dX11_heap_62 rfl ?_
        refine pr_bipush dX11_heap_63 (by decide) ?_
        obtain ⟨q6, e7, h⟩ := pm_bs h
        refine pr_callV (As := [pv_i (-6)]) (S := []) (t := 0) dX11_heap_65 mk_X11_69 lc_0 (ci := 11) (q := (RX11, TX11, 11)) rfl rfl rfl rfl (by decide) (by decide) (by decide) (Or.inl rfl) (tmX11_refuse e7) ?_
        have h := Option.some.inj h
        subst h
        exact pr_iret dX11_heap_68 rfl
      · have h := pm_ng c_5 h
        refine pr_iload_n dX11_heap_34 rfl ?_
        refine pr_aload_n dX11_heap_35 rfl ?_
        refine pr_getR dX11_heap_36 lk_X11_19 lc_0 rfl ?_
        refine pr_getR dX11_heap_39 lk_X11_96 lc_10 rfl ?_
        refine pr_iload_n dX11_heap_42 rfl ?_
        obtain ⟨g_8, h⟩ := pm_gs h
        refine pr_iald dX11_heap_43 lc_14 rfl g_8 ?_
        refine pr_icmp_gt (tgt := 62) dX11_heap_44 rfl rfl (by decide) (fun c_9 => ?_) (fun c_9 => ?_)
        · have h := pm_pos c_9 h
          refine pr_aload_n dX11_heap_62 rfl ?_
          refine pr_bipush dX11_heap_63 (by decide) ?_
          obtain ⟨q10, e11, h⟩ := pm_bs h
          refine pr_callV (As := [pv_i (-6)]) (S := []) (t := 0) dX11_heap_65 mk_X11_69 lc_0 (ci := 11) (q := (RX11, TX11, 11)) rfl rfl rfl rfl (by decide) (by decide) (by decide) (Or.inl rfl) (tmX11_refuse e11) ?_
          have h := Option.some.inj h
          subst h
          exact pr_iret dX11_heap_68 rfl
        · have h := pm_ng c_9 h
          refine pr_aload_n dX11_heap_47 rfl ?_
          refine pr_getR dX11_heap_48 lk_X11_28 lc_0 rfl ?_
          refine pr_getR dX11_heap_51 lk_X11_99 lc_15 rfl ?_
          refine pr_getI dX11_heap_54 lk_X11_103 lc_43 rfl ?_
          refine pr_bipush dX11_heap_57 (by decide) ?_
          refine pr_icmp_ne (tgt := 69) dX11_heap_59 rfl (wr_eq (by decide) (by decide)) (by decide) (fun c_12 => ?_) (fun c_12 => ?_)
          · have h := pm_ng c_12 h
            refine pr_aload_n dX11_heap_69 rfl ?_
            refine pr_getR dX11_heap_70 lk_X11_19 lc_0 rfl ?_
            refine pr_getR dX11_heap_73 lk_X11_96 lc_10 rfl ?_
            refine pr_iload_n dX11_heap_76 rfl ?_
            refine pr_dup2 dX11_heap_77 rfl rfl ?_
            obtain ⟨g_13, h⟩ := pm_gs h
            refine pr_iald dX11_heap_78 lc_14 rfl g_13 ?_
            refine pr_iload_n dX11_heap_79 rfl ?_
            refine pr_isub dX11_heap_80 ?_
            obtain ⟨g_14, h⟩ := pm_gs h
            refine pr_iast dX11_heap_81 lc_14 rfl g_14 ?_
            refine pr_aload_n dX11_heap_82 rfl ?_
            refine pr_getR dX11_heap_83 lk_X11_28 lc_0 rfl ?_
            refine pr_getR dX11_heap_86 lk_X11_99 lc_15 rfl ?_
            refine pr_iload_n dX11_heap_89 rfl ?_
            refine pr_iload_n dX11_heap_90 rfl ?_
            refine pr_aload_n dX11_heap_91 rfl ?_
            refine pr_getR dX11_heap_92 lk_X11_28 lc_0 rfl ?_
            refine pr_getI dX11_heap_95 lk_X11_109 lc_15 rfl ?_
            obtain ⟨q15, e16, h⟩ := pm_bs h
            refine pr_callV (As := [pv_i x1, pv_i x2, pv_i ((pm_up σ 14 (Int.toNat (wr x1)) ((σ 14 (Int.toNat (wr x1))) - x2)) 15 7)]) (S := []) (t := 43) dX11_heap_98 mk_X11_112 lc_43 (ci := 1) (q := (RX1, TX1, 7)) rfl rfl rfl rfl (by decide) (by decide) (by decide) (Or.inl rfl) (tmX1_lay (Or.inl rfl) e16) ?_
            have h := Option.some.inj h
            subst h
            exact pr_iret dX11_heap_101 rfl
          · have h := pm_pos c_12 h
            refine pr_aload_n dX11_heap_62 rfl ?_
            refine pr_bipush dX11_heap_63 (by decide) ?_
            obtain ⟨q17, e18, h⟩ := pm_bs h
            refine pr_callV (As := [pv_i (-6)]) (S := []) (t := 0) dX11_heap_65 mk_X11_69 lc_0 (ci := 11) (q := (RX11, TX11, 11)) rfl rfl rfl rfl (by decide) (by decide) (by decide) (Or.inl rfl) (tmX11_refuse e18) ?_
            have h := Option.some.inj h
            subst h
            exact pr_iret dX11_heap_68 rfl
    · have h := pm_ng c_4 h
      refine pr_aload_n dX11_heap_20 rfl ?_
      refine pr_bipush dX11_heap_21 (by decide) ?_
      obtain ⟨q19, e20, h⟩ := pm_bs h
      refine pr_callV (As := [pv_i (-4)]) (S := []) (t := 0) dX11_heap_23 mk_X11_69 lc_0 (ci := 11) (q := (RX11, TX11, 11)) rfl rfl rfl rfl (by decide) (by decide) (by decide) (Or.inl rfl) (tmX11_refuse e20) ?_
      have h := Option.some.inj h
      subst h
      exact pr_iret dX11_heap_26 rfl
  · have h := pm_pos c_3 h
    refine pr_aload_n dX11_heap_9 rfl ?_
    refine pr_iconst dX11_heap_10 ?_
    obtain ⟨q21, e22, h⟩ := pm_bs h
    refine pr_callV (As := [pv_i (-1)]) (S := []) (t := 0) dX11_heap_11 mk_X11_69 lc_0 (ci := 11) (q := (RX11, TX11, 11)) rfl rfl rfl rfl (by decide) (by decide) (by decide) (Or.inl rfl) (tmX11_refuse e22) ?_
    have h := Option.some.inj h
    subst h
    exact pr_iret dX11_heap_14 rfl
def fX11_load (x1 : Int) (x2 : Int) (x3 : Int) (σ : pm_M) : Option (Int × pm_M) :=
  (fX11_isNumber x1 4).bind fun q1 => if (wr q1) = 0 then ((fX11_refuse (-1) σ).bind fun q4 => some (q4.1, q4.2)) else ((fX11_isNumber x2 (σ 43 5)).bind fun q6 => if (wr q6) = 0 then ((fX11_refuse (-1) σ).bind fun q36 => some (q36.1, q36.2)) else ((fX0_isEmpty 15 x1 σ).bind fun q9 => if (wr q9) = 0 then ((fX11_refuse (-3) σ).bind fun q12 => some (q12.1, q12.2)) else ((fX1_isRipe 15 x2 (σ 15 7) σ).bind fun q14 => if (wr q14) = 0 then ((fX11_refuse (-3) σ).bind fun q34 => some (q34.1, q34.2)) else (if 1 ≤ (wr x3) then (if 100 < (wr x3) then ((fX11_refuse (-6) σ).bind fun q19 => some (q19.1, q19.2)) else (pm_g (0 ≤ (wr x2) ∧ (wr x2) < 40) (if (wr x3) ≤ (wr (σ 45 (Int.toNat (wr x2)))) then (pm_g (0 ≤ (wr x2) ∧ (wr x2) < 40) (pm_g (0 ≤ (wr x2) ∧ (wr x2) < 40) (pm_g (0 ≤ (wr x2) ∧ (wr x2) < 40) (pm_g (0 ≤ (wr (σ 44 (Int.toNat (wr x2)))) ∧ (wr (σ 44 (Int.toNat (wr x2)))) < 9) ((fX0_take 15 x1 (σ 44 (Int.toNat (wr x2))) x3 ((pm_up σ 45 (Int.toNat (wr x2)) ((σ 45 (Int.toNat (wr x2))) - x3)) 13 (Int.toNat (wr (σ 44 (Int.toNat (wr x2)))))) (pm_up σ 45 (Int.toNat (wr x2)) ((σ 45 (Int.toNat (wr x2))) - x3))).bind fun q27 => pm_g (0 ≤ (wr (σ 44 (Int.toNat (wr x2)))) ∧ (wr (σ 44 (Int.toNat (wr x2)))) < 9) (some ((q27 13 (Int.toNat (wr (σ 44 (Int.toNat (wr x2)))))), q27))))))) else ((fX11_refuse (-6) σ).bind fun q30 => some (q30.1, q30.2))))) else ((fX11_refuse (-4) σ).bind fun q32 => some (q32.1, q32.2))))))
set_option maxHeartbeats 4000000 in
set_option maxRecDepth 100000 in
theorem tmX11_load {x1 : Int} {x2 : Int} {x3 : Int} {σ : pm_M} {ρ : Int × pm_M} (h : fX11_load x1 x2 x3 σ = some ρ) : pm_C mX11_load 2 44 [pv_r 0, pv_i x1, pv_i x2, pv_i x3] LAYC σ (some (pv_i ρ.1)) LAYC ρ.2 := by
  refine pm_C.of rfl rfl (by decide) ?_
  show pm_J mX11_load 2 44 LAYC (some (pv_i ρ.1)) LAYC ρ.2 0 [some (pv_r 0), some (pv_i x1), some (pv_i x2), some (pv_i x3), none] [] LAYC σ
  unfold fX11_load at h
  refine pr_iload_n dX11_load_0 rfl ?_
  refine pr_iconst dX11_load_1 ?_
  obtain ⟨q1, e2, h⟩ := pm_bs h
  refine pr_callS (av := [pv_i x1, pv_i 4]) (S := []) dX11_load_2 mk_X11_65 rfl rfl (by decide) (by decide) (by decide) (Or.inl rfl) (tmX11_isNumber e2) ?_
  refine pr_if_eq (tgt := 25) dX11_load_5 rfl (by decide) (fun c_3 => ?_) (fun c_3 => ?_)
  · have h := pm_pos c_3 h
    refine pr_aload_n dX11_load_25 rfl ?_
    refine pr_iconst dX11_load_26 ?_
    obtain ⟨q4, e5, h⟩ := pm_bs h
    refine pr_callV (As := [pv_i (-1)]) (S := []) (t := 0) dX11_load_27 mk_X11_69 lc_0 (ci := 11) (q := (RX11, TX11, 11)) rfl rfl rfl rfl (by decide) (by decide) (by decide) (Or.inl rfl) (tmX11_refuse e5) ?_
    have h := Option.some.inj h
    subst h
    exact pr_iret dX11_load_30 rfl
  · have h := pm_ng c_3 h
    refine pr_iload_n dX11_load_8 rfl ?_
    refine pr_aload_n dX11_load_9 rfl ?_
    refine pr_getR dX11_load_10 lk_X11_28 lc_0 rfl ?_
    refine pr_getR dX11_load_13 lk_X11_99 lc_15 rfl ?_
    refine pr_getI dX11_load_16 lk_X11_103 lc_43 rfl ?_
    obtain ⟨q6, e7, h⟩ := pm_bs h
    refine pr_callS (av := [pv_i x2, pv_i (σ 43 5)]) (S := []) dX11_load_19 mk_X11_65 rfl rfl (by decide) (by decide) (by decide) (Or.inl rfl) (tmX11_isNumber e7) ?_
    refine pr_if_ne (tgt := 31) dX11_load_22 rfl (by decide) (fun c_8 => ?_) (fun c_8 => ?_)
    · have h := pm_ng c_8 h
      refine pr_aload_n dX11_load_31 rfl ?_
      refine pr_getR dX11_load_32 lk_X11_28 lc_0 rfl ?_
      refine pr_getR dX11_load_35 lk_X11_116 lc_15 rfl ?_
      refine pr_iload_n dX11_load_38 rfl ?_
      obtain ⟨q9, e10, h⟩ := pm_bs h
      refine pr_callV (As := [pv_i x1]) (S := []) (t := 17) dX11_load_39 mk_X11_120 lc_17 (ci := 0) (q := (RX0, TX0, 4)) rfl rfl rfl rfl (by decide) (by decide) (by decide) (Or.inl rfl) (tmX0_isEmpty (Or.inl rfl) e10) ?_
      refine pr_if_eq (tgt := 66) dX11_load_42 rfl (by decide) (fun c_11 => ?_) (fun c_11 => ?_)
      · have h := pm_pos c_11 h
        refine pr_aload_n dX11_load_66 rfl ?_
        refine pr_bipush dX11_load_67 (by decide) ?_
        obtain ⟨q12, e13, h⟩ := pm_bs h
        refine pr_callV (As := [pv_i (-3)]) (S := []) (t := 0) dX11_load_69 mk_X11_69 lc_0 (ci := 11) (q := (RX11, TX11, 11)) rfl rfl rfl rfl (by decide) (by decide) (by decide) (Or.inl rfl) (tmX11_refuse e13) ?_
        have h := Option.some.inj h
        subst h
        exact pr_iret dX11_load_72 rfl
      · have h := pm_ng c_11 h
        refine pr_aload_n dX11_load_45 rfl ?_
        refine pr_getR dX11_load_46 lk_X11_28 lc_0 rfl ?_
        refine pr_getR dX11_load_49 lk_X11_99 lc_15 rfl ?_
        refine pr_iload_n dX11_load_52 rfl ?_
        refine pr_aload_n dX11_load_53 rfl ?_
        refine pr_getR dX11_load_54 lk_X11_28 lc_0 rfl ?_
        refine pr_getI dX11_load_57 lk_X11_109 lc_15 rfl ?_
        obtain ⟨q14, e15, h⟩ := pm_bs h
        refine pr_callV (As := [pv_i x2, pv_i (σ 15 7)]) (S := []) (t := 43) dX11_load_60 mk_X11_126 lc_43 (ci := 1) (q := (RX1, TX1, 7)) rfl rfl rfl rfl (by decide) (by decide) (by decide) (Or.inl rfl) (tmX1_isRipe (Or.inl rfl) e15) ?_
        refine pr_if_ne (tgt := 73) dX11_load_63 rfl (by decide) (fun c_16 => ?_) (fun c_16 => ?_)
        · have h := pm_ng c_16 h
          refine pr_iload_n dX11_load_73 rfl ?_
          refine pr_iconst dX11_load_74 ?_
          refine pr_icmp_ge (tgt := 85) dX11_load_75 rfl (wr_eq (by decide) (by decide)) (by decide) (fun c_17 => ?_) (fun c_17 => ?_)
          · have h := pm_pos c_17 h
            refine pr_iload_n dX11_load_85 rfl ?_
            refine pr_bipush dX11_load_86 (by decide) ?_
            refine pr_icmp_gt (tgt := 107) dX11_load_88 rfl (wr_eq (by decide) (by decide)) (by decide) (fun c_18 => ?_) (fun c_18 => ?_)
            · have h := pm_pos c_18 h
              refine pr_aload_n dX11_load_107 rfl ?_
              refine pr_bipush dX11_load_108 (by decide) ?_
              obtain ⟨q19, e20, h⟩ := pm_bs h
              refine pr_callV (As := [pv_i (-6)]) (S := []) (t := 0) dX11_load_110 mk_X11_69 lc_0 (ci := 11) (q := (RX11, TX11, 11)) rfl rfl rfl rfl (by decide) (by decide) (by decide) (Or.inl rfl) (tmX11_refuse e20) ?_
              have h := Option.some.inj h
              subst h
              exact pr_iret dX11_load_113 rfl
            · have h := pm_ng c_18 h
              refine pr_iload_n dX11_load_91 rfl ?_
              refine pr_aload_n dX11_load_92 rfl ?_
              refine pr_getR dX11_load_93 lk_X11_28 lc_0 rfl ?_
              refine pr_getR dX11_load_96 lk_X11_99 lc_15 rfl ?_
              refine pr_getR dX11_load_99 lk_X11_129 lc_43 rfl ?_
              refine pr_iload_n dX11_load_102 rfl ?_
              obtain ⟨g_21, h⟩ := pm_gs h
              refine pr_iald dX11_load_103 lc_45 rfl g_21 ?_
              refine pr_icmp_le (tgt := 114) dX11_load_104 rfl rfl (by decide) (fun c_22 => ?_) (fun c_22 => ?_)
              · have h := pm_pos c_22 h
                refine pr_aload_n dX11_load_114 rfl ?_
                refine pr_getR dX11_load_115 lk_X11_28 lc_0 rfl ?_
                refine pr_getR dX11_load_118 lk_X11_99 lc_15 rfl ?_
                refine pr_getR dX11_load_121 lk_X11_132 lc_43 rfl ?_
                refine pr_iload_n dX11_load_124 rfl ?_
                obtain ⟨g_23, h⟩ := pm_gs h
                refine pr_iald dX11_load_125 lc_44 rfl g_23 ?_
                refine pr_istore dX11_load_126 (by decide) rfl ?_
                refine pr_aload_n dX11_load_128 rfl ?_
                refine pr_getR dX11_load_129 lk_X11_28 lc_0 rfl ?_
                refine pr_getR dX11_load_132 lk_X11_99 lc_15 rfl ?_
                refine pr_getR dX11_load_135 lk_X11_129 lc_43 rfl ?_
                refine pr_iload_n dX11_load_138 rfl ?_
                refine pr_dup2 dX11_load_139 rfl rfl ?_
                obtain ⟨g_24, h⟩ := pm_gs h
                refine pr_iald dX11_load_140 lc_45 rfl g_24 ?_
                refine pr_iload_n dX11_load_141 rfl ?_
                refine pr_isub dX11_load_142 ?_
                obtain ⟨g_25, h⟩ := pm_gs h
                refine pr_iast dX11_load_143 lc_45 rfl g_25 ?_
                refine pr_aload_n dX11_load_144 rfl ?_
                refine pr_getR dX11_load_145 lk_X11_28 lc_0 rfl ?_
                refine pr_getR dX11_load_148 lk_X11_116 lc_15 rfl ?_
                refine pr_iload_n dX11_load_151 rfl ?_
                refine pr_iload dX11_load_152 rfl ?_
                refine pr_iload_n dX11_load_154 rfl ?_
                refine pr_aload_n dX11_load_155 rfl ?_
                refine pr_getR dX11_load_156 lk_X11_19 lc_0 rfl ?_
                refine pr_getR dX11_load_159 lk_X11_93 lc_10 rfl ?_
                refine pr_iload dX11_load_162 rfl ?_
                obtain ⟨g_26, h⟩ := pm_gs h
                refine pr_iald dX11_load_164 lc_13 rfl g_26 ?_
                obtain ⟨q27, e28, h⟩ := pm_bs h
                refine pr_callV (As := [pv_i x1, pv_i (σ 44 (Int.toNat (wr x2))), pv_i x3, pv_i ((pm_up σ 45 (Int.toNat (wr x2)) ((σ 45 (Int.toNat (wr x2))) - x3)) 13 (Int.toNat (wr (σ 44 (Int.toNat (wr x2))))))]) (S := []) (t := 17) dX11_load_165 mk_X11_135 lc_17 (ci := 0) (q := (RX0, TX0, 4)) rfl rfl rfl rfl (by decide) (by decide) (by decide) (Or.inl rfl) (tmX0_take (Or.inl rfl) e28) ?_
                refine pr_aload_n dX11_load_168 rfl ?_
                refine pr_getR dX11_load_169 lk_X11_19 lc_0 rfl ?_
                refine pr_getR dX11_load_172 lk_X11_93 lc_10 rfl ?_
                refine pr_iload dX11_load_175 rfl ?_
                obtain ⟨g_29, h⟩ := pm_gs h
                refine pr_iald dX11_load_177 lc_13 rfl g_29 ?_
                have h := Option.some.inj h
                subst h
                exact pr_iret dX11_load_178 rfl
              · have h := pm_ng c_22 h
                refine pr_aload_n dX11_load_107 rfl ?_
                refine pr_bipush dX11_load_108 (by decide) ?_
                obtain ⟨q30, e31, h⟩ := pm_bs h
                refine pr_callV (As := [pv_i (-6)]) (S := []) (t := 0) dX11_load_110 mk_X11_69 lc_0 (ci := 11) (q := (RX11, TX11, 11)) rfl rfl rfl rfl (by decide) (by decide) (by decide) (Or.inl rfl) (tmX11_refuse e31) ?_
                have h := Option.some.inj h
                subst h
                exact pr_iret dX11_load_113 rfl
          · have h := pm_ng c_17 h
            refine pr_aload_n dX11_load_78 rfl ?_
            refine pr_bipush dX11_load_79 (by decide) ?_
            obtain ⟨q32, e33, h⟩ := pm_bs h
            refine pr_callV (As := [pv_i (-4)]) (S := []) (t := 0) dX11_load_81 mk_X11_69 lc_0 (ci := 11) (q := (RX11, TX11, 11)) rfl rfl rfl rfl (by decide) (by decide) (by decide) (Or.inl rfl) (tmX11_refuse e33) ?_
            have h := Option.some.inj h
            subst h
            exact pr_iret dX11_load_84 rfl
        · have h := pm_pos c_16 h
          refine pr_aload_n dX11_load_66 rfl ?_
          refine pr_bipush dX11_load_67 (by decide) ?_
          obtain ⟨q34, e35, h⟩ := pm_bs h
          refine pr_callV (As := [pv_i (-3)]) (S := []) (t := 0) dX11_load_69 mk_X11_69 lc_0 (ci := 11) (q := (RX11, TX11, 11)) rfl rfl rfl rfl (by decide) (by decide) (by decide) (Or.inl rfl) (tmX11_refuse e35) ?_
          have h := Option.some.inj h
          subst h
          exact pr_iret dX11_load_72 rfl
    · have h := pm_pos c_8 h
      refine pr_aload_n dX11_load_25 rfl ?_
      refine pr_iconst dX11_load_26 ?_
      obtain ⟨q36, e37, h⟩ := pm_bs h
      refine pr_callV (As := [pv_i (-1)]) (S := []) (t := 0) dX11_load_27 mk_X11_69 lc_0 (ci := 11) (q := (RX11, TX11, 11)) rfl rfl rfl rfl (by decide) (by decide) (by decide) (Or.inl rfl) (tmX11_refuse e37) ?_
      have h := Option.some.inj h
      subst h
      exact pr_iret dX11_load_30 rfl
def fX11_pair (x1 : Int) (σ : pm_M) : Option (Int × pm_M) :=
  (fX11_isWeight x1).bind fun q1 => if (wr q1) = 0 then ((fX11_refuse (-1) σ).bind fun q9 => some (q9.1, q9.2)) else (if (wr (σ 22 3)) = 4 then ((fX11_refuse (-6) σ).bind fun q7 => some (q7.1, q7.2)) else ((fX3_addPair 15 x1 σ).bind fun q5 => some (q5.1, q5.2)))
set_option maxHeartbeats 4000000 in
set_option maxRecDepth 100000 in
theorem tmX11_pair {x1 : Int} {σ : pm_M} {ρ : Int × pm_M} (h : fX11_pair x1 σ = some ρ) : pm_C mX11_pair 1 22 [pv_r 0, pv_i x1] LAYC σ (some (pv_i ρ.1)) LAYC ρ.2 := by
  refine pm_C.of rfl rfl (by decide) ?_
  show pm_J mX11_pair 1 22 LAYC (some (pv_i ρ.1)) LAYC ρ.2 0 [some (pv_r 0), some (pv_i x1)] [] LAYC σ
  unfold fX11_pair at h
  refine pr_iload_n dX11_pair_0 rfl ?_
  obtain ⟨q1, e2, h⟩ := pm_bs h
  refine pr_callS (av := [pv_i x1]) (S := []) dX11_pair_1 mk_X11_139 rfl rfl (by decide) (by decide) (by decide) (Or.inl rfl) (tmX11_isWeight e2) ?_
  refine pr_if_ne (tgt := 13) dX11_pair_4 rfl (by decide) (fun c_3 => ?_) (fun c_3 => ?_)
  · have h := pm_ng c_3 h
    refine pr_aload_n dX11_pair_13 rfl ?_
    refine pr_getR dX11_pair_14 lk_X11_28 lc_0 rfl ?_
    refine pr_getR dX11_pair_17 lk_X11_142 lc_15 rfl ?_
    refine pr_getI dX11_pair_20 lk_X11_146 lc_22 rfl ?_
    refine pr_iconst dX11_pair_23 ?_
    refine pr_icmp_ne (tgt := 34) dX11_pair_24 rfl (wr_eq (by decide) (by decide)) (by decide) (fun c_4 => ?_) (fun c_4 => ?_)
    · have h := pm_ng c_4 h
      refine pr_aload_n dX11_pair_34 rfl ?_
      refine pr_getR dX11_pair_35 lk_X11_28 lc_0 rfl ?_
      refine pr_getR dX11_pair_38 lk_X11_142 lc_15 rfl ?_
      refine pr_iload_n dX11_pair_41 rfl ?_
      obtain ⟨q5, e6, h⟩ := pm_bs h
      refine pr_callV (As := [pv_i x1]) (S := []) (t := 22) dX11_pair_42 mk_X11_151 lc_22 (ci := 3) (q := (RX3, TX3, 4)) rfl rfl rfl rfl (by decide) (by decide) (by decide) (Or.inl rfl) (tmX3_addPair (Or.inl rfl) e6) ?_
      have h := Option.some.inj h
      subst h
      exact pr_iret dX11_pair_45 rfl
    · have h := pm_pos c_4 h
      refine pr_aload_n dX11_pair_27 rfl ?_
      refine pr_bipush dX11_pair_28 (by decide) ?_
      obtain ⟨q7, e8, h⟩ := pm_bs h
      refine pr_callV (As := [pv_i (-6)]) (S := []) (t := 0) dX11_pair_30 mk_X11_69 lc_0 (ci := 11) (q := (RX11, TX11, 11)) rfl rfl rfl rfl (by decide) (by decide) (by decide) (Or.inl rfl) (tmX11_refuse e8) ?_
      have h := Option.some.inj h
      subst h
      exact pr_iret dX11_pair_33 rfl
  · have h := pm_pos c_3 h
    refine pr_aload_n dX11_pair_7 rfl ?_
    refine pr_iconst dX11_pair_8 ?_
    obtain ⟨q9, e10, h⟩ := pm_bs h
    refine pr_callV (As := [pv_i (-1)]) (S := []) (t := 0) dX11_pair_9 mk_X11_69 lc_0 (ci := 11) (q := (RX11, TX11, 11)) rfl rfl rfl rfl (by decide) (by decide) (by decide) (Or.inl rfl) (tmX11_refuse e10) ?_
    have h := Option.some.inj h
    subst h
    exact pr_iret dX11_pair_12 rfl
def fX11_isMould (x1 : Int) (σ : pm_M) : Option (Int) :=
  (fX11_isNumber x1 (2 * (σ 22 3))).bind fun q1 => pm_g (q1 = 0 ∨ q1 = 1) (some q1)
set_option maxHeartbeats 4000000 in
set_option maxRecDepth 100000 in
theorem tmX11_isMould {x1 : Int} {σ : pm_M} {ρ : Int} (h : fX11_isMould x1 σ = some ρ) : pm_C mX11_isMould 1 21 [pv_r 0, pv_i x1] LAYC σ (some (pv_i ρ)) LAYC σ := by
  refine pm_C.of rfl rfl (by decide) ?_
  show pm_J mX11_isMould 1 21 LAYC (some (pv_i ρ)) LAYC σ 0 [some (pv_r 0), some (pv_i x1)] [] LAYC σ
  unfold fX11_isMould at h
  refine pr_iload_n dX11_isMould_0 rfl ?_
  refine pr_iconst dX11_isMould_1 ?_
  refine pr_aload_n dX11_isMould_2 rfl ?_
  refine pr_getR dX11_isMould_3 lk_X11_28 lc_0 rfl ?_
  refine pr_getR dX11_isMould_6 lk_X11_142 lc_15 rfl ?_
  refine pr_getI dX11_isMould_9 lk_X11_146 lc_22 rfl ?_
  refine pr_imul dX11_isMould_12 ?_
  obtain ⟨q1, e2, h⟩ := pm_bs h
  refine pr_callS (av := [pv_i x1, pv_i (2 * (σ 22 3))]) (S := []) dX11_isMould_13 mk_X11_65 rfl rfl (by decide) (by decide) (by decide) (Or.inl rfl) (tmX11_isNumber e2) ?_
  obtain ⟨g_3, h⟩ := pm_gs h
  have h := Option.some.inj h
  subst h
  exact pr_zret dX11_isMould_16 rfl g_3
def fX11_wire (x1 : Int) (x2 : Int) (x3 : Int) (σ : pm_M) : Option (Int × pm_M) :=
  (fX11_isMould x1 σ).bind fun q1 => if (wr q1) = 0 then ((fX11_refuse (-1) σ).bind fun q4 => some (q4.1, q4.2)) else ((fX11_isNumber x2 6).bind fun q6 => if (wr q6) = 0 then ((fX11_refuse (-1) σ).bind fun q24 => some (q24.1, q24.2)) else ((fX8_isPairAtPost 15 (Int.tdiv (wr x1) 2) σ).bind fun q9 => if (wr q9) = 0 then (if 0 ≤ (wr x3) then (if (wr x3) ≤ 99 then ((fX3_wireOf 15 x1 x2 σ).bind fun q14 => (fX3_setWire 15 x1 x2 x3 σ).bind fun q16 => some (q14, q16)) else ((fX11_refuse (-6) σ).bind fun q18 => some (q18.1, q18.2))) else ((fX11_refuse (-4) σ).bind fun q20 => some (q20.1, q20.2))) else ((fX11_refuse (-3) σ).bind fun q22 => some (q22.1, q22.2))))
set_option maxHeartbeats 4000000 in
set_option maxRecDepth 100000 in
theorem tmX11_wire {x1 : Int} {x2 : Int} {x3 : Int} {σ : pm_M} {ρ : Int × pm_M} (h : fX11_wire x1 x2 x3 σ = some ρ) : pm_C mX11_wire 2 42 [pv_r 0, pv_i x1, pv_i x2, pv_i x3] LAYC σ (some (pv_i ρ.1)) LAYC ρ.2 := by
  refine pm_C.of rfl rfl (by decide) ?_
  show pm_J mX11_wire 2 42 LAYC (some (pv_i ρ.1)) LAYC ρ.2 0 [some (pv_r 0), some (pv_i x1), some (pv_i x2), some (pv_i x3), none] [] LAYC σ
  unfold fX11_wire at h
  refine pr_aload_n dX11_wire_0 rfl ?_
  refine pr_iload_n dX11_wire_1 rfl ?_
  obtain ⟨q1, e2, h⟩ := pm_bs h
  refine pr_callV (As := [pv_i x1]) (S := []) (t := 0) dX11_wire_2 mk_X11_154 lc_0 (ci := 11) (q := (RX11, TX11, 11)) rfl rfl rfl rfl (by decide) (by decide) (by decide) (Or.inl rfl) (tmX11_isMould e2) ?_
  refine pr_if_eq (tgt := 17) dX11_wire_5 rfl (by decide) (fun c_3 => ?_) (fun c_3 => ?_)
  · have h := pm_pos c_3 h
    refine pr_aload_n dX11_wire_17 rfl ?_
    refine pr_iconst dX11_wire_18 ?_
    obtain ⟨q4, e5, h⟩ := pm_bs h
    refine pr_callV (As := [pv_i (-1)]) (S := []) (t := 0) dX11_wire_19 mk_X11_69 lc_0 (ci := 11) (q := (RX11, TX11, 11)) rfl rfl rfl rfl (by decide) (by decide) (by decide) (Or.inl rfl) (tmX11_refuse e5) ?_
    have h := Option.some.inj h
    subst h
    exact pr_iret dX11_wire_22 rfl
  · have h := pm_ng c_3 h
    refine pr_iload_n dX11_wire_8 rfl ?_
    refine pr_bipush dX11_wire_9 (by decide) ?_
    obtain ⟨q6, e7, h⟩ := pm_bs h
    refine pr_callS (av := [pv_i x2, pv_i 6]) (S := []) dX11_wire_11 mk_X11_65 rfl rfl (by decide) (by decide) (by decide) (Or.inl rfl) (tmX11_isNumber e7) ?_
    refine pr_if_ne (tgt := 23) dX11_wire_14 rfl (by decide) (fun c_8 => ?_) (fun c_8 => ?_)
    · have h := pm_ng c_8 h
      refine pr_aload_n dX11_wire_23 rfl ?_
      refine pr_getR dX11_wire_24 lk_X11_28 lc_0 rfl ?_
      refine pr_getR dX11_wire_27 lk_X11_157 lc_15 rfl ?_
      refine pr_iload_n dX11_wire_30 rfl ?_
      refine pr_iconst dX11_wire_31 ?_
      refine pr_idiv dX11_wire_32 rfl (wr_eq (by decide) (by decide)) (by decide) ?_
      obtain ⟨q9, e10, h⟩ := pm_bs h
      refine pr_callV (As := [pv_i (Int.tdiv (wr x1) 2)]) (S := []) (t := 37) dX11_wire_33 mk_X11_161 lc_37 (ci := 8) (q := (RX8, TX8, 9)) rfl rfl rfl rfl (by decide) (by decide) (by decide) (Or.inl rfl) (tmX8_isPairAtPost (Or.inl rfl) e10) ?_
      refine pr_if_eq (tgt := 46) dX11_wire_36 rfl (by decide) (fun c_11 => ?_) (fun c_11 => ?_)
      · have h := pm_pos c_11 h
        refine pr_iload_n dX11_wire_46 rfl ?_
        refine pr_if_ge (tgt := 57) dX11_wire_47 rfl (by decide) (fun c_12 => ?_) (fun c_12 => ?_)
        · have h := pm_pos c_12 h
          refine pr_iload_n dX11_wire_57 rfl ?_
          refine pr_bipush dX11_wire_58 (by decide) ?_
          refine pr_icmp_le (tgt := 70) dX11_wire_60 rfl (wr_eq (by decide) (by decide)) (by decide) (fun c_13 => ?_) (fun c_13 => ?_)
          · have h := pm_pos c_13 h
            refine pr_aload_n dX11_wire_70 rfl ?_
            refine pr_getR dX11_wire_71 lk_X11_28 lc_0 rfl ?_
            refine pr_getR dX11_wire_74 lk_X11_142 lc_15 rfl ?_
            refine pr_iload_n dX11_wire_77 rfl ?_
            refine pr_iload_n dX11_wire_78 rfl ?_
            obtain ⟨q14, e15, h⟩ := pm_bs h
            refine pr_callV (As := [pv_i x1, pv_i x2]) (S := []) (t := 22) dX11_wire_79 mk_X11_166 lc_22 (ci := 3) (q := (RX3, TX3, 4)) rfl rfl rfl rfl (by decide) (by decide) (by decide) (Or.inl rfl) (tmX3_wireOf (Or.inl rfl) e15) ?_
            refine pr_istore dX11_wire_82 (by decide) rfl ?_
            refine pr_aload_n dX11_wire_84 rfl ?_
            refine pr_getR dX11_wire_85 lk_X11_28 lc_0 rfl ?_
            refine pr_getR dX11_wire_88 lk_X11_142 lc_15 rfl ?_
            refine pr_iload_n dX11_wire_91 rfl ?_
            refine pr_iload_n dX11_wire_92 rfl ?_
            refine pr_iload_n dX11_wire_93 rfl ?_
            obtain ⟨q16, e17, h⟩ := pm_bs h
            refine pr_callV (As := [pv_i x1, pv_i x2, pv_i x3]) (S := []) (t := 22) dX11_wire_94 mk_X11_169 lc_22 (ci := 3) (q := (RX3, TX3, 4)) rfl rfl rfl rfl (by decide) (by decide) (by decide) (Or.inl rfl) (tmX3_setWire (Or.inl rfl) e17) ?_
            refine pr_iload dX11_wire_97 rfl ?_
            have h := Option.some.inj h
            subst h
            exact pr_iret dX11_wire_99 rfl
          · have h := pm_ng c_13 h
            refine pr_aload_n dX11_wire_63 rfl ?_
            refine pr_bipush dX11_wire_64 (by decide) ?_
            obtain ⟨q18, e19, h⟩ := pm_bs h
            refine pr_callV (As := [pv_i (-6)]) (S := []) (t := 0) dX11_wire_66 mk_X11_69 lc_0 (ci := 11) (q := (RX11, TX11, 11)) rfl rfl rfl rfl (by decide) (by decide) (by decide) (Or.inl rfl) (tmX11_refuse e19) ?_
            have h := Option.some.inj h
            subst h
            exact pr_iret dX11_wire_69 rfl
        · have h := pm_ng c_12 h
          refine pr_aload_n dX11_wire_50 rfl ?_
          refine pr_bipush dX11_wire_51 (by decide) ?_
          obtain ⟨q20, e21, h⟩ := pm_bs h
          refine pr_callV (As := [pv_i (-4)]) (S := []) (t := 0) dX11_wire_53 mk_X11_69 lc_0 (ci := 11) (q := (RX11, TX11, 11)) rfl rfl rfl rfl (by decide) (by decide) (by decide) (Or.inl rfl) (tmX11_refuse e21) ?_
          have h := Option.some.inj h
          subst h
          exact pr_iret dX11_wire_56 rfl
      · have h := pm_ng c_11 h
        refine pr_aload_n dX11_wire_39 rfl ?_
        refine pr_bipush dX11_wire_40 (by decide) ?_
        obtain ⟨q22, e23, h⟩ := pm_bs h
        refine pr_callV (As := [pv_i (-3)]) (S := []) (t := 0) dX11_wire_42 mk_X11_69 lc_0 (ci := 11) (q := (RX11, TX11, 11)) rfl rfl rfl rfl (by decide) (by decide) (by decide) (Or.inl rfl) (tmX11_refuse e23) ?_
        have h := Option.some.inj h
        subst h
        exact pr_iret dX11_wire_45 rfl
    · have h := pm_pos c_8 h
      refine pr_aload_n dX11_wire_17 rfl ?_
      refine pr_iconst dX11_wire_18 ?_
      obtain ⟨q24, e25, h⟩ := pm_bs h
      refine pr_callV (As := [pv_i (-1)]) (S := []) (t := 0) dX11_wire_19 mk_X11_69 lc_0 (ci := 11) (q := (RX11, TX11, 11)) rfl rfl rfl rfl (by decide) (by decide) (by decide) (Or.inl rfl) (tmX11_refuse e25) ?_
      have h := Option.some.inj h
      subst h
      exact pr_iret dX11_wire_22 rfl
def fX11_mouldOf (x1 : Int) (x2 : Int) (σ : pm_M) : Option (Int × pm_M) :=
  (fX11_isMould x1 σ).bind fun q1 => if (wr q1) = 0 then ((fX11_refuse (-1) σ).bind fun q13 => some (q13.1, q13.2)) else ((fX11_isNumber x2 7).bind fun q4 => if (wr q4) = 0 then ((fX11_refuse (-2) σ).bind fun q11 => some (q11.1, q11.2)) else (if (wr x2) = 6 then (pm_g (0 ≤ (wr x1) ∧ (wr x1) < 8) (some ((σ 25 (Int.toNat (wr x1))), σ))) else ((fX3_wireOf 15 x1 x2 σ).bind fun q8 => some (q8, σ))))
set_option maxHeartbeats 4000000 in
set_option maxRecDepth 100000 in
theorem tmX11_mouldOf {x1 : Int} {x2 : Int} {σ : pm_M} {ρ : Int × pm_M} (h : fX11_mouldOf x1 x2 σ = some ρ) : pm_C mX11_mouldOf 2 42 [pv_r 0, pv_i x1, pv_i x2] LAYC σ (some (pv_i ρ.1)) LAYC ρ.2 := by
  refine pm_C.of rfl rfl (by decide) ?_
  show pm_J mX11_mouldOf 2 42 LAYC (some (pv_i ρ.1)) LAYC ρ.2 0 [some (pv_r 0), some (pv_i x1), some (pv_i x2)] [] LAYC σ
  unfold fX11_mouldOf at h
  refine pr_aload_n dX11_mouldOf_0 rfl ?_
  refine pr_iload_n dX11_mouldOf_1 rfl ?_
  obtain ⟨q1, e2, h⟩ := pm_bs h
  refine pr_callV (As := [pv_i x1]) (S := []) (t := 0) dX11_mouldOf_2 mk_X11_154 lc_0 (ci := 11) (q := (RX11, TX11, 11)) rfl rfl rfl rfl (by decide) (by decide) (by decide) (Or.inl rfl) (tmX11_isMould e2) ?_
  refine pr_if_ne (tgt := 14) dX11_mouldOf_5 rfl (by decide) (fun c_3 => ?_) (fun c_3 => ?_)
  · have h := pm_ng c_3 h
    refine pr_iload_n dX11_mouldOf_14 rfl ?_
    refine pr_bipush dX11_mouldOf_15 (by decide) ?_
    obtain ⟨q4, e5, h⟩ := pm_bs h
    refine pr_callS (av := [pv_i x2, pv_i 7]) (S := []) dX11_mouldOf_17 mk_X11_65 rfl rfl (by decide) (by decide) (by decide) (Or.inl rfl) (tmX11_isNumber e5) ?_
    refine pr_if_ne (tgt := 30) dX11_mouldOf_20 rfl (by decide) (fun c_6 => ?_) (fun c_6 => ?_)
    · have h := pm_ng c_6 h
      refine pr_iload_n dX11_mouldOf_30 rfl ?_
      refine pr_bipush dX11_mouldOf_31 (by decide) ?_
      refine pr_icmp_ne (tgt := 51) dX11_mouldOf_33 rfl (wr_eq (by decide) (by decide)) (by decide) (fun c_7 => ?_) (fun c_7 => ?_)
      · have h := pm_ng c_7 h
        refine pr_aload_n dX11_mouldOf_51 rfl ?_
        refine pr_getR dX11_mouldOf_52 lk_X11_28 lc_0 rfl ?_
        refine pr_getR dX11_mouldOf_55 lk_X11_142 lc_15 rfl ?_
        refine pr_iload_n dX11_mouldOf_58 rfl ?_
        refine pr_iload_n dX11_mouldOf_59 rfl ?_
        obtain ⟨q8, e9, h⟩ := pm_bs h
        refine pr_callV (As := [pv_i x1, pv_i x2]) (S := []) (t := 22) dX11_mouldOf_60 mk_X11_166 lc_22 (ci := 3) (q := (RX3, TX3, 4)) rfl rfl rfl rfl (by decide) (by decide) (by decide) (Or.inl rfl) (tmX3_wireOf (Or.inl rfl) e9) ?_
        have h := Option.some.inj h
        subst h
        exact pr_iret dX11_mouldOf_63 rfl
      · have h := pm_pos c_7 h
        refine pr_aload_n dX11_mouldOf_36 rfl ?_
        refine pr_getR dX11_mouldOf_37 lk_X11_28 lc_0 rfl ?_
        refine pr_getR dX11_mouldOf_40 lk_X11_142 lc_15 rfl ?_
        refine pr_getR dX11_mouldOf_43 lk_X11_172 lc_22 rfl ?_
        refine pr_iload_n dX11_mouldOf_46 rfl ?_
        obtain ⟨g_10, h⟩ := pm_gs h
        refine pr_iald dX11_mouldOf_47 lc_25 rfl g_10 ?_
        refine pr_goto (tgt := 63) dX11_mouldOf_48 (by decide) ?_
        have h := Option.some.inj h
        subst h
        exact pr_iret dX11_mouldOf_63 rfl
    · have h := pm_pos c_6 h
      refine pr_aload_n dX11_mouldOf_23 rfl ?_
      refine pr_bipush dX11_mouldOf_24 (by decide) ?_
      obtain ⟨q11, e12, h⟩ := pm_bs h
      refine pr_callV (As := [pv_i (-2)]) (S := []) (t := 0) dX11_mouldOf_26 mk_X11_69 lc_0 (ci := 11) (q := (RX11, TX11, 11)) rfl rfl rfl rfl (by decide) (by decide) (by decide) (Or.inl rfl) (tmX11_refuse e12) ?_
      have h := Option.some.inj h
      subst h
      exact pr_iret dX11_mouldOf_29 rfl
  · have h := pm_pos c_3 h
    refine pr_aload_n dX11_mouldOf_8 rfl ?_
    refine pr_iconst dX11_mouldOf_9 ?_
    obtain ⟨q13, e14, h⟩ := pm_bs h
    refine pr_callV (As := [pv_i (-1)]) (S := []) (t := 0) dX11_mouldOf_10 mk_X11_69 lc_0 (ci := 11) (q := (RX11, TX11, 11)) rfl rfl rfl rfl (by decide) (by decide) (by decide) (Or.inl rfl) (tmX11_refuse e14) ?_
    have h := Option.some.inj h
    subst h
    exact pr_iret dX11_mouldOf_13 rfl
def jnX11_vat_36 (w1 : Int) (w2 : Int) (σ : pm_M) : Option (Int × pm_M) :=
  pm_g (0 ≤ (wr w1) ∧ (wr w1) < 3) (if 0 < (wr (σ 40 (Int.toNat (wr w1)))) then ((fX11_refuse (-3) σ).bind fun q9 => some (q9.1, q9.2)) else ((fX8_isPairElsewhere 15 w1 w2 σ).bind fun q11 => if (wr q11) = 0 then (if (wr w2) = (-1) then (pm_g (0 ≤ (wr w1) ∧ (wr w1) < 3) (some (1, (pm_up σ 38 (Int.toNat (wr w1)) (-9))))) else (pm_g (0 ≤ (wr w1) ∧ (wr w1) < 3) (some (1, (pm_up σ 38 (Int.toNat (wr w1)) w2))))) else ((fX11_refuse (-3) σ).bind fun q17 => some (q17.1, q17.2))))
set_option maxHeartbeats 4000000 in
set_option maxRecDepth 100000 in
theorem tjX11_vat_36 {lay0 : List pm_S} {w1 : Int} {w2 : Int} {σ : pm_M} {ρ : Int × pm_M} (h : jnX11_vat_36 w1 w2 σ = some ρ) : pm_J mX11_vat 1 23 lay0 (some (pv_i ρ.1)) LAYC ρ.2 36 [some (pv_r 0), some (pv_i w1), some (pv_i w2)] [] LAYC σ := by
  unfold jnX11_vat_36 at h
  refine pr_aload_n dX11_vat_36 rfl ?_
  refine pr_getR dX11_vat_37 lk_X11_28 lc_0 rfl ?_
  refine pr_getR dX11_vat_40 lk_X11_157 lc_15 rfl ?_
  refine pr_getR dX11_vat_43 lk_X11_175 lc_37 rfl ?_
  refine pr_iload_n dX11_vat_46 rfl ?_
  obtain ⟨g_7, h⟩ := pm_gs h
  refine pr_iald dX11_vat_47 lc_40 rfl g_7 ?_
  refine pr_if_gt (tgt := 66) dX11_vat_48 rfl (by decide) (fun c_8 => ?_) (fun c_8 => ?_)
  · have h := pm_pos c_8 h
    refine pr_aload_n dX11_vat_66 rfl ?_
    refine pr_bipush dX11_vat_67 (by decide) ?_
    obtain ⟨q9, e10, h⟩ := pm_bs h
    refine pr_callV (As := [pv_i (-3)]) (S := []) (t := 0) dX11_vat_69 mk_X11_69 lc_0 (ci := 11) (q := (RX11, TX11, 11)) rfl rfl rfl rfl (by decide) (by decide) (by decide) (Or.inl rfl) (tmX11_refuse e10) ?_
    have h := Option.some.inj h
    subst h
    exact pr_iret dX11_vat_72 rfl
  · have h := pm_ng c_8 h
    refine pr_aload_n dX11_vat_51 rfl ?_
    refine pr_getR dX11_vat_52 lk_X11_28 lc_0 rfl ?_
    refine pr_getR dX11_vat_55 lk_X11_157 lc_15 rfl ?_
    refine pr_iload_n dX11_vat_58 rfl ?_
    refine pr_iload_n dX11_vat_59 rfl ?_
    obtain ⟨q11, e12, h⟩ := pm_bs h
    refine pr_callV (As := [pv_i w1, pv_i w2]) (S := []) (t := 37) dX11_vat_60 mk_X11_178 lc_37 (ci := 8) (q := (RX8, TX8, 9)) rfl rfl rfl rfl (by decide) (by decide) (by decide) (Or.inl rfl) (tmX8_isPairElsewhere (Or.inl rfl) e12) ?_
    refine pr_if_eq (tgt := 73) dX11_vat_63 rfl (by decide) (fun c_13 => ?_) (fun c_13 => ?_)
    · have h := pm_pos c_13 h
      refine pr_aload_n dX11_vat_73 rfl ?_
      refine pr_getR dX11_vat_74 lk_X11_28 lc_0 rfl ?_
      refine pr_getR dX11_vat_77 lk_X11_157 lc_15 rfl ?_
      refine pr_getR dX11_vat_80 lk_X11_181 lc_37 rfl ?_
      refine pr_iload_n dX11_vat_83 rfl ?_
      refine pr_iload_n dX11_vat_84 rfl ?_
      refine pr_iconst dX11_vat_85 ?_
      refine pr_icmp_ne (tgt := 94) dX11_vat_86 rfl (wr_eq (by decide) (by decide)) (by decide) (fun c_14 => ?_) (fun c_14 => ?_)
      · have h := pm_ng c_14 h
        refine pr_iload_n dX11_vat_94 rfl ?_
        obtain ⟨g_15, h⟩ := pm_gs h
        refine pr_iast dX11_vat_95 lc_38 rfl g_15 ?_
        refine pr_iconst dX11_vat_96 ?_
        have h := Option.some.inj h
        subst h
        exact pr_iret dX11_vat_97 rfl
      · have h := pm_pos c_14 h
        refine pr_bipush dX11_vat_89 (by decide) ?_
        refine pr_goto (tgt := 95) dX11_vat_91 (by decide) ?_
        obtain ⟨g_16, h⟩ := pm_gs h
        refine pr_iast dX11_vat_95 lc_38 rfl g_16 ?_
        refine pr_iconst dX11_vat_96 ?_
        have h := Option.some.inj h
        subst h
        exact pr_iret dX11_vat_97 rfl
    · have h := pm_ng c_13 h
      refine pr_aload_n dX11_vat_66 rfl ?_
      refine pr_bipush dX11_vat_67 (by decide) ?_
      obtain ⟨q17, e18, h⟩ := pm_bs h
      refine pr_callV (As := [pv_i (-3)]) (S := []) (t := 0) dX11_vat_69 mk_X11_69 lc_0 (ci := 11) (q := (RX11, TX11, 11)) rfl rfl rfl rfl (by decide) (by decide) (by decide) (Or.inl rfl) (tmX11_refuse e18) ?_
      have h := Option.some.inj h
      subst h
      exact pr_iret dX11_vat_72 rfl
def fX11_vat (x1 : Int) (x2 : Int) (σ : pm_M) : Option (Int × pm_M) :=
  (fX11_isNumber x1 3).bind fun q1 => if (wr q1) = 0 then ((fX11_refuse (-1) σ).bind fun q4 => some (q4.1, q4.2)) else (if (wr x2) = (-1) then (jnX11_vat_36 x1 x2 σ) else ((fX11_isNumber x2 (σ 22 3)).bind fun q19 => if (wr q19) = 0 then ((fX11_refuse (-1) σ).bind fun q22 => some (q22.1, q22.2)) else (jnX11_vat_36 x1 x2 σ)))
set_option maxHeartbeats 4000000 in
set_option maxRecDepth 100000 in
theorem tmX11_vat {x1 : Int} {x2 : Int} {σ : pm_M} {ρ : Int × pm_M} (h : fX11_vat x1 x2 σ = some ρ) : pm_C mX11_vat 1 23 [pv_r 0, pv_i x1, pv_i x2] LAYC σ (some (pv_i ρ.1)) LAYC ρ.2 := by
  refine pm_C.of rfl rfl (by decide) ?_
  show pm_J mX11_vat 1 23 LAYC (some (pv_i ρ.1)) LAYC ρ.2 0 [some (pv_r 0), some (pv_i x1), some (pv_i x2)] [] LAYC σ
  unfold fX11_vat at h
  refine pr_iload_n dX11_vat_0 rfl ?_
  refine pr_iconst dX11_vat_1 ?_
  obtain ⟨q1, e2, h⟩ := pm_bs h
  refine pr_callS (av := [pv_i x1, pv_i 3]) (S := []) dX11_vat_2 mk_X11_65 rfl rfl (by decide) (by decide) (by decide) (Or.inl rfl) (tmX11_isNumber e2) ?_
  refine pr_if_eq (tgt := 30) dX11_vat_5 rfl (by decide) (fun c_3 => ?_) (fun c_3 => ?_)
  · have h := pm_pos c_3 h
    refine pr_aload_n dX11_vat_30 rfl ?_
    refine pr_iconst dX11_vat_31 ?_
    obtain ⟨q4, e5, h⟩ := pm_bs h
    refine pr_callV (As := [pv_i (-1)]) (S := []) (t := 0) dX11_vat_32 mk_X11_69 lc_0 (ci := 11) (q := (RX11, TX11, 11)) rfl rfl rfl rfl (by decide) (by decide) (by decide) (Or.inl rfl) (tmX11_refuse e5) ?_
    have h := Option.some.inj h
    subst h
    exact pr_iret dX11_vat_35 rfl
  · have h := pm_ng c_3 h
    refine pr_iload_n dX11_vat_8 rfl ?_
    refine pr_iconst dX11_vat_9 ?_
    refine pr_icmp_eq (tgt := 36) dX11_vat_10 rfl (wr_eq (by decide) (by decide)) (by decide) (fun c_6 => ?_) (fun c_6 => ?_)
    · have h := pm_pos c_6 h
      refine pr_weak (L2 := [some (pv_r 0), some (pv_i x1), some (pv_i x2)]) ⟨Or.inr rfl, Or.inr rfl, Or.inr rfl, trivial⟩ ?_
      exact tjX11_vat_36 h
    · have h := pm_ng c_6 h
      refine pr_iload_n dX11_vat_13 rfl ?_
      refine pr_aload_n dX11_vat_14 rfl ?_
      refine pr_getR dX11_vat_15 lk_X11_28 lc_0 rfl ?_
      refine pr_getR dX11_vat_18 lk_X11_142 lc_15 rfl ?_
      refine pr_getI dX11_vat_21 lk_X11_146 lc_22 rfl ?_
      obtain ⟨q19, e20, h⟩ := pm_bs h
      refine pr_callS (av := [pv_i x2, pv_i (σ 22 3)]) (S := []) dX11_vat_24 mk_X11_65 rfl rfl (by decide) (by decide) (by decide) (Or.inl rfl) (tmX11_isNumber e20) ?_
      refine pr_if_ne (tgt := 36) dX11_vat_27 rfl (by decide) (fun c_21 => ?_) (fun c_21 => ?_)
      · have h := pm_ng c_21 h
        refine pr_weak (L2 := [some (pv_r 0), some (pv_i x1), some (pv_i x2)]) ⟨Or.inr rfl, Or.inr rfl, Or.inr rfl, trivial⟩ ?_
        exact tjX11_vat_36 h
      · have h := pm_pos c_21 h
        refine pr_aload_n dX11_vat_30 rfl ?_
        refine pr_iconst dX11_vat_31 ?_
        obtain ⟨q22, e23, h⟩ := pm_bs h
        refine pr_callV (As := [pv_i (-1)]) (S := []) (t := 0) dX11_vat_32 mk_X11_69 lc_0 (ci := 11) (q := (RX11, TX11, 11)) rfl rfl rfl rfl (by decide) (by decide) (by decide) (Or.inl rfl) (tmX11_refuse e23) ?_
        have h := Option.some.inj h
        subst h
        exact pr_iret dX11_vat_35 rfl
def fX11_furnish (x1 : Int) (x2 : Int) (σ : pm_M) : Option (Int × pm_M) :=
  (fX11_isNumber x1 3).bind fun q1 => if (wr q1) = 0 then ((fX11_refuse (-1) σ).bind fun q4 => some (q4.1, q4.2)) else ((fX11_isNumber x2 9).bind fun q6 => if (wr q6) = 0 then ((fX11_refuse (-1) σ).bind fun q11 => some (q11.1, q11.2)) else (pm_g (0 ≤ (wr x1) ∧ (wr x1) < 3) (pm_g (0 ≤ (wr x1) ∧ (wr x1) < 3) (some ((σ 39 (Int.toNat (wr x1))), (pm_up σ 39 (Int.toNat (wr x1)) x2))))))
set_option maxHeartbeats 4000000 in
set_option maxRecDepth 100000 in
theorem tmX11_furnish {x1 : Int} {x2 : Int} {σ : pm_M} {ρ : Int × pm_M} (h : fX11_furnish x1 x2 σ = some ρ) : pm_C mX11_furnish 1 21 [pv_r 0, pv_i x1, pv_i x2] LAYC σ (some (pv_i ρ.1)) LAYC ρ.2 := by
  refine pm_C.of rfl rfl (by decide) ?_
  show pm_J mX11_furnish 1 21 LAYC (some (pv_i ρ.1)) LAYC ρ.2 0 [some (pv_r 0), some (pv_i x1), some (pv_i x2), none] [] LAYC σ
  unfold fX11_furnish at h
  refine pr_iload_n dX11_furnish_0 rfl ?_
  refine pr_iconst dX11_furnish_1 ?_
  obtain ⟨q1, e2, h⟩ := pm_bs h
  refine pr_callS (av := [pv_i x1, pv_i 3]) (S := []) dX11_furnish_2 mk_X11_65 rfl rfl (by decide) (by decide) (by decide) (Or.inl rfl) (tmX11_isNumber e2) ?_
  refine pr_if_eq (tgt := 17) dX11_furnish_5 rfl (by decide) (fun c_3 => ?_) (fun c_3 => ?_)
  · have h := pm_pos c_3 h
    refine pr_aload_n dX11_furnish_17 rfl ?_
    refine pr_iconst dX11_furnish_18 ?_
    obtain ⟨q4, e5, h⟩ := pm_bs h
    refine pr_callV (As := [pv_i (-1)]) (S := []) (t := 0) dX11_furnish_19 mk_X11_69 lc_0 (ci := 11) (q := (RX11, TX11, 11)) rfl rfl rfl rfl (by decide) (by decide) (by decide) (Or.inl rfl) (tmX11_refuse e5) ?_
    have h := Option.some.inj h
    subst h
    exact pr_iret dX11_furnish_22 rfl
  · have h := pm_ng c_3 h
    refine pr_iload_n dX11_furnish_8 rfl ?_
    refine pr_bipush dX11_furnish_9 (by decide) ?_
    obtain ⟨q6, e7, h⟩ := pm_bs h
    refine pr_callS (av := [pv_i x2, pv_i 9]) (S := []) dX11_furnish_11 mk_X11_65 rfl rfl (by decide) (by decide) (by decide) (Or.inl rfl) (tmX11_isNumber e7) ?_
    refine pr_if_ne (tgt := 23) dX11_furnish_14 rfl (by decide) (fun c_8 => ?_) (fun c_8 => ?_)
    · have h := pm_ng c_8 h
      refine pr_aload_n dX11_furnish_23 rfl ?_
      refine pr_getR dX11_furnish_24 lk_X11_28 lc_0 rfl ?_
      refine pr_getR dX11_furnish_27 lk_X11_157 lc_15 rfl ?_
      refine pr_getR dX11_furnish_30 lk_X11_184 lc_37 rfl ?_
      refine pr_iload_n dX11_furnish_33 rfl ?_
      obtain ⟨g_9, h⟩ := pm_gs h
      refine pr_iald dX11_furnish_34 lc_39 rfl g_9 ?_
      refine pr_istore_n dX11_furnish_35 (by decide) rfl ?_
      refine pr_aload_n dX11_furnish_36 rfl ?_
      refine pr_getR dX11_furnish_37 lk_X11_28 lc_0 rfl ?_
      refine pr_getR dX11_furnish_40 lk_X11_157 lc_15 rfl ?_
      refine pr_getR dX11_furnish_43 lk_X11_184 lc_37 rfl ?_
      refine pr_iload_n dX11_furnish_46 rfl ?_
      refine pr_iload_n dX11_furnish_47 rfl ?_
      obtain ⟨g_10, h⟩ := pm_gs h
      refine pr_iast dX11_furnish_48 lc_39 rfl g_10 ?_
      refine pr_iload_n dX11_furnish_49 rfl ?_
      have h := Option.some.inj h
      subst h
      exact pr_iret dX11_furnish_50 rfl
    · have h := pm_pos c_8 h
      refine pr_aload_n dX11_furnish_17 rfl ?_
      refine pr_iconst dX11_furnish_18 ?_
      obtain ⟨q11, e12, h⟩ := pm_bs h
      refine pr_callV (As := [pv_i (-1)]) (S := []) (t := 0) dX11_furnish_19 mk_X11_69 lc_0 (ci := 11) (q := (RX11, TX11, 11)) rfl rfl rfl rfl (by decide) (by decide) (by decide) (Or.inl rfl) (tmX11_refuse e12) ?_
      have h := Option.some.inj h
      subst h
      exact pr_iret dX11_furnish_22 rfl
def fX11_loft (x1 : Int) (σ : pm_M) : Option (Int × pm_M) :=
  if 0 ≤ (wr x1) then (if (wr x1) ≤ 40 then (some ((σ 26 11), (pm_up σ 26 11 x1))) else ((fX11_refuse (-6) σ).bind fun q3 => some (q3.1, q3.2))) else ((fX11_refuse (-4) σ).bind fun q5 => some (q5.1, q5.2))
set_option maxHeartbeats 4000000 in
set_option maxRecDepth 100000 in
theorem tmX11_loft {x1 : Int} {σ : pm_M} {ρ : Int × pm_M} (h : fX11_loft x1 σ = some ρ) : pm_C mX11_loft 1 21 [pv_r 0, pv_i x1] LAYC σ (some (pv_i ρ.1)) LAYC ρ.2 := by
  refine pm_C.of rfl rfl (by decide) ?_
  show pm_J mX11_loft 1 21 LAYC (some (pv_i ρ.1)) LAYC ρ.2 0 [some (pv_r 0), some (pv_i x1), none] [] LAYC σ
  unfold fX11_loft at h
  refine pr_iload_n dX11_loft_0 rfl ?_
  refine pr_if_ge (tgt := 11) dX11_loft_1 rfl (by decide) (fun c_1 => ?_) (fun c_1 => ?_)
  · have h := pm_pos c_1 h
    refine pr_iload_n dX11_loft_11 rfl ?_
    refine pr_bipush dX11_loft_12 (by decide) ?_
    refine pr_icmp_le (tgt := 24) dX11_loft_14 rfl (wr_eq (by decide) (by decide)) (by decide) (fun c_2 => ?_) (fun c_2 => ?_)
    · have h := pm_pos c_2 h
      refine pr_aload_n dX11_loft_24 rfl ?_
      refine pr_getR dX11_loft_25 lk_X11_28 lc_0 rfl ?_
      refine pr_getR dX11_loft_28 lk_X11_44 lc_15 rfl ?_
      refine pr_getI dX11_loft_31 lk_X11_185 lc_26 rfl ?_
      refine pr_istore_n dX11_loft_34 (by decide) rfl ?_
      refine pr_aload_n dX11_loft_35 rfl ?_
      refine pr_getR dX11_loft_36 lk_X11_28 lc_0 rfl ?_
      refine pr_getR dX11_loft_39 lk_X11_44 lc_15 rfl ?_
      refine pr_iload_n dX11_loft_42 rfl ?_
      refine pr_putI dX11_loft_43 lp_X11_185 lc_26 rfl ?_
      refine pr_iload_n dX11_loft_46 rfl ?_
      have h := Option.some.inj h
      subst h
      exact pr_iret dX11_loft_47 rfl
    · have h := pm_ng c_2 h
      refine pr_aload_n dX11_loft_17 rfl ?_
      refine pr_bipush dX11_loft_18 (by decide) ?_
      obtain ⟨q3, e4, h⟩ := pm_bs h
      refine pr_callV (As := [pv_i (-6)]) (S := []) (t := 0) dX11_loft_20 mk_X11_69 lc_0 (ci := 11) (q := (RX11, TX11, 11)) rfl rfl rfl rfl (by decide) (by decide) (by decide) (Or.inl rfl) (tmX11_refuse e4) ?_
      have h := Option.some.inj h
      subst h
      exact pr_iret dX11_loft_23 rfl
  · have h := pm_ng c_1 h
    refine pr_aload_n dX11_loft_4 rfl ?_
    refine pr_bipush dX11_loft_5 (by decide) ?_
    obtain ⟨q5, e6, h⟩ := pm_bs h
    refine pr_callV (As := [pv_i (-4)]) (S := []) (t := 0) dX11_loft_7 mk_X11_69 lc_0 (ci := 11) (q := (RX11, TX11, 11)) rfl rfl rfl rfl (by decide) (by decide) (by decide) (Or.inl rfl) (tmX11_refuse e6) ?_
    have h := Option.some.inj h
    subst h
    exact pr_iret dX11_loft_10 rfl
def fX11_hides (x1 : Int) (σ : pm_M) : Option (Int × pm_M) :=
  if 1 ≤ (wr x1) then (if (wr x1) ≤ (wr (1000 - (σ 0 9))) then (some (((pm_up σ 0 9 ((σ 0 9) + x1)) 0 9), (pm_up σ 0 9 ((σ 0 9) + x1)))) else ((fX11_refuse (-6) σ).bind fun q3 => some (q3.1, q3.2))) else ((fX11_refuse (-4) σ).bind fun q5 => some (q5.1, q5.2))
set_option maxHeartbeats 4000000 in
set_option maxRecDepth 100000 in
theorem tmX11_hides {x1 : Int} {σ : pm_M} {ρ : Int × pm_M} (h : fX11_hides x1 σ = some ρ) : pm_C mX11_hides 1 21 [pv_r 0, pv_i x1] LAYC σ (some (pv_i ρ.1)) LAYC ρ.2 := by
  refine pm_C.of rfl rfl (by decide) ?_
  show pm_J mX11_hides 1 21 LAYC (some (pv_i ρ.1)) LAYC ρ.2 0 [some (pv_r 0), some (pv_i x1)] [] LAYC σ
  unfold fX11_hides at h
  refine pr_iload_n dX11_hides_0 rfl ?_
  refine pr_iconst dX11_hides_1 ?_
  refine pr_icmp_ge (tgt := 12) dX11_hides_2 rfl (wr_eq (by decide) (by decide)) (by decide) (fun c_1 => ?_) (fun c_1 => ?_)
  · have h := pm_pos c_1 h
    refine pr_iload_n dX11_hides_12 rfl ?_
    refine pr_sipush dX11_hides_13 (by decide) ?_
    refine pr_aload_n dX11_hides_16 rfl ?_
    refine pr_getI dX11_hides_17 lk_X11_190 lc_0 rfl ?_
    refine pr_isub dX11_hides_20 ?_
    refine pr_icmp_le (tgt := 31) dX11_hides_21 rfl rfl (by decide) (fun c_2 => ?_) (fun c_2 => ?_)
    · have h := pm_pos c_2 h
      refine pr_aload_n dX11_hides_31 rfl ?_
      refine pr_dup dX11_hides_32 rfl ?_
      refine pr_getI dX11_hides_33 lk_X11_190 lc_0 rfl ?_
      refine pr_iload_n dX11_hides_36 rfl ?_
      refine pr_iadd dX11_hides_37 ?_
      refine pr_putI dX11_hides_38 lp_X11_190 lc_0 rfl ?_
      refine pr_aload_n dX11_hides_41 rfl ?_
      refine pr_getI dX11_hides_42 lk_X11_190 lc_0 rfl ?_
      have h := Option.some.inj h
      subst h
      exact pr_iret dX11_hides_45 rfl
    · have h := pm_ng c_2 h
      refine pr_aload_n dX11_hides_24 rfl ?_
      refine pr_bipush dX11_hides_25 (by decide) ?_
      obtain ⟨q3, e4, h⟩ := pm_bs h
      refine pr_callV (As := [pv_i (-6)]) (S := []) (t := 0) dX11_hides_27 mk_X11_69 lc_0 (ci := 11) (q := (RX11, TX11, 11)) rfl rfl rfl rfl (by decide) (by decide) (by decide) (Or.inl rfl) (tmX11_refuse e4) ?_
      have h := Option.some.inj h
      subst h
      exact pr_iret dX11_hides_30 rfl
  · have h := pm_ng c_1 h
    refine pr_aload_n dX11_hides_5 rfl ?_
    refine pr_bipush dX11_hides_6 (by decide) ?_
    obtain ⟨q5, e6, h⟩ := pm_bs h
    refine pr_callV (As := [pv_i (-4)]) (S := []) (t := 0) dX11_hides_8 mk_X11_69 lc_0 (ci := 11) (q := (RX11, TX11, 11)) rfl rfl rfl rfl (by decide) (by decide) (by decide) (Or.inl rfl) (tmX11_refuse e6) ?_
    have h := Option.some.inj h
    subst h
    exact pr_iret dX11_hides_11 rfl
def fX11_sizePost (x1 : Int) (σ : pm_M) : Option (Int × pm_M) :=
  (fX6_finish 15 x1 (pm_up σ 0 9 ((σ 0 9) - 1))).bind fun q1 => pm_g (0 ≤ (wr x1) ∧ (wr x1) < 80) (pm_g (0 ≤ (wr (q1.2 30 (Int.toNat (wr x1)))) ∧ (wr (q1.2 30 (Int.toNat (wr x1)))) < 4) (pm_g (0 ≤ (wr x1) ∧ (wr x1) < 80) ((fX11_shelfOf (q1.2 31 (Int.toNat (wr x1))) (q1.2 23 (Int.toNat (wr (q1.2 30 (Int.toNat (wr x1))))))).bind fun q6 => pm_g (0 ≤ (wr q6) ∧ (wr q6) < 81) (pm_g (0 ≤ (wr q6) ∧ (wr q6) < 81) (some (q1.1, (pm_up q1.2 92 (Int.toNat (wr q6)) ((q1.2 92 (Int.toNat (wr q6))) + q1.1))))))))
set_option maxHeartbeats 4000000 in
set_option maxRecDepth 100000 in
theorem tmX11_sizePost {x1 : Int} {σ : pm_M} {ρ : Int × pm_M} (h : fX11_sizePost x1 σ = some ρ) : pm_C mX11_sizePost 2 43 [pv_r 0, pv_i x1] LAYC σ (some (pv_i ρ.1)) LAYC ρ.2 := by
  refine pm_C.of rfl rfl (by decide) ?_
  show pm_J mX11_sizePost 2 43 LAYC (some (pv_i ρ.1)) LAYC ρ.2 0 [some (pv_r 0), some (pv_i x1), none, none] [] LAYC σ
  unfold fX11_sizePost at h
  refine pr_aload_n dX11_sizePost_0 rfl ?_
  refine pr_dup dX11_sizePost_1 rfl ?_
  refine pr_getI dX11_sizePost_2 lk_X11_190 lc_0 rfl ?_
  refine pr_iconst dX11_sizePost_5 ?_
  refine pr_isub dX11_sizePost_6 ?_
  refine pr_putI dX11_sizePost_7 lp_X11_190 lc_0 rfl ?_
  refine pr_aload_n dX11_sizePost_10 rfl ?_
  refine pr_getR dX11_sizePost_11 lk_X11_28 lc_0 rfl ?_
  refine pr_getR dX11_sizePost_14 lk_X11_44 lc_15 rfl ?_
  refine pr_iload_n dX11_sizePost_17 rfl ?_
  obtain ⟨q1, e2, h⟩ := pm_bs h
  refine pr_callV (As := [pv_i x1]) (S := []) (t := 26) dX11_sizePost_18 mk_X11_351 lc_26 (ci := 6) (q := (RX6, TX6, 12)) rfl rfl rfl rfl (by decide) (by decide) (by decide) (Or.inl rfl) (tmX6_finish (Or.inl rfl) e2) ?_
  refine pr_istore_n dX11_sizePost_21 (by decide) rfl ?_
  refine pr_aload_n dX11_sizePost_22 rfl ?_
  refine pr_getR dX11_sizePost_23 lk_X11_28 lc_0 rfl ?_
  refine pr_getR dX11_sizePost_26 lk_X11_142 lc_15 rfl ?_
  refine pr_getR dX11_sizePost_29 lk_X11_354 lc_22 rfl ?_
  refine pr_aload_n dX11_sizePost_32 rfl ?_
  refine pr_getR dX11_sizePost_33 lk_X11_28 lc_0 rfl ?_
  refine pr_getR dX11_sizePost_36 lk_X11_44 lc_15 rfl ?_
  refine pr_getR dX11_sizePost_39 lk_X11_298 lc_26 rfl ?_
  refine pr_iload_n dX11_sizePost_42 rfl ?_
  obtain ⟨g_3, h⟩ := pm_gs h
  refine pr_iald dX11_sizePost_43 lc_30 rfl g_3 ?_
  obtain ⟨g_4, h⟩ := pm_gs h
  refine pr_iald dX11_sizePost_44 lc_23 rfl g_4 ?_
  refine pr_istore_n dX11_sizePost_45 (by decide) rfl ?_
  refine pr_aload_n dX11_sizePost_46 rfl ?_
  refine pr_getR dX11_sizePost_47 lk_X11_59 lc_0 rfl ?_
  refine pr_aload_n dX11_sizePost_50 rfl ?_
  refine pr_getR dX11_sizePost_51 lk_X11_28 lc_0 rfl ?_
  refine pr_getR dX11_sizePost_54 lk_X11_44 lc_15 rfl ?_
  refine pr_getR dX11_sizePost_57 lk_X11_326 lc_26 rfl ?_
  refine pr_iload_n dX11_sizePost_60 rfl ?_
  obtain ⟨g_5, h⟩ := pm_gs h
  refine pr_iald dX11_sizePost_61 lc_31 rfl g_5 ?_
  refine pr_iload_n dX11_sizePost_62 rfl ?_
  obtain ⟨q6, e7, h⟩ := pm_bs h
  refine pr_callS (av := [pv_i (q1.2 31 (Int.toNat (wr x1))), pv_i (q1.2 23 (Int.toNat (wr (q1.2 30 (Int.toNat (wr x1))))))]) (S := [pv_r 92]) dX11_sizePost_63 mk_X11_216 rfl rfl (by decide) (by decide) (by decide) (Or.inl rfl) (tmX11_shelfOf e7) ?_
  refine pr_dup2 dX11_sizePost_66 rfl rfl ?_
  obtain ⟨g_8, h⟩ := pm_gs h
  refine pr_iald dX11_sizePost_67 lc_92 rfl g_8 ?_
  refine pr_iload_n dX11_sizePost_68 rfl ?_
  refine pr_iadd dX11_sizePost_69 ?_
  obtain ⟨g_9, h⟩ := pm_gs h
  refine pr_iast dX11_sizePost_70 lc_92 rfl g_9 ?_
  refine pr_iload_n dX11_sizePost_71 rfl ?_
  have h := Option.some.inj h
  subst h
  exact pr_iret dX11_sizePost_72 rfl
def fX11_size (x1 : Int) (σ : pm_M) : Option (Int × pm_M) :=
  (fX11_isNumber x1 (σ 26 8)).bind fun q1 => if (wr q1) = 0 then ((fX11_refuse (-1) σ).bind fun q14 => some (q14.1, q14.2)) else ((fX6_stateOf 15 x1 σ).bind fun q4 => if (wr q4) = 2 then (if (wr (σ 0 9)) = 0 then ((fX11_refuse (-3) σ).bind fun q12 => some (q12.1, q12.2)) else ((fX11_sizePost x1 σ).bind fun q10 => some (q10.1, q10.2))) else ((fX11_refuse (-3) σ).bind fun q7 => some (q7.1, q7.2)))
set_option maxHeartbeats 4000000 in
set_option maxRecDepth 100000 in
theorem tmX11_size {x1 : Int} {σ : pm_M} {ρ : Int × pm_M} (h : fX11_size x1 σ = some ρ) : pm_C mX11_size 3 66 [pv_r 0, pv_i x1] LAYC σ (some (pv_i ρ.1)) LAYC ρ.2 := by
  refine pm_C.of rfl rfl (by decide) ?_
  show pm_J mX11_size 3 66 LAYC (some (pv_i ρ.1)) LAYC ρ.2 0 [some (pv_r 0), some (pv_i x1)] [] LAYC σ
  unfold fX11_size at h
  refine pr_iload_n dX11_size_0 rfl ?_
  refine pr_aload_n dX11_size_1 rfl ?_
  refine pr_getR dX11_size_2 lk_X11_28 lc_0 rfl ?_
  refine pr_getR dX11_size_5 lk_X11_44 lc_15 rfl ?_
  refine pr_getI dX11_size_8 lk_X11_193 lc_26 rfl ?_
  obtain ⟨q1, e2, h⟩ := pm_bs h
  refine pr_callS (av := [pv_i x1, pv_i (σ 26 8)]) (S := []) dX11_size_11 mk_X11_65 rfl rfl (by decide) (by decide) (by decide) (Or.inl rfl) (tmX11_isNumber e2) ?_
  refine pr_if_ne (tgt := 23) dX11_size_14 rfl (by decide) (fun c_3 => ?_) (fun c_3 => ?_)
  · have h := pm_ng c_3 h
    refine pr_aload_n dX11_size_23 rfl ?_
    refine pr_getR dX11_size_24 lk_X11_28 lc_0 rfl ?_
    refine pr_getR dX11_size_27 lk_X11_44 lc_15 rfl ?_
    refine pr_iload_n dX11_size_30 rfl ?_
    obtain ⟨q4, e5, h⟩ := pm_bs h
    refine pr_callV (As := [pv_i x1]) (S := []) (t := 26) dX11_size_31 mk_X11_196 lc_26 (ci := 6) (q := (RX6, TX6, 12)) rfl rfl rfl rfl (by decide) (by decide) (by decide) (Or.inl rfl) (tmX6_stateOf (Or.inl rfl) e5) ?_
    refine pr_iconst dX11_size_34 ?_
    refine pr_icmp_ne (tgt := 45) dX11_size_35 rfl (wr_eq (by decide) (by decide)) (by decide) (fun c_6 => ?_) (fun c_6 => ?_)
    · have h := pm_ng c_6 h
      refine pr_aload_n dX11_size_45 rfl ?_
      refine pr_bipush dX11_size_46 (by decide) ?_
      obtain ⟨q7, e8, h⟩ := pm_bs h
      refine pr_callV (As := [pv_i (-3)]) (S := []) (t := 0) dX11_size_48 mk_X11_69 lc_0 (ci := 11) (q := (RX11, TX11, 11)) rfl rfl rfl rfl (by decide) (by decide) (by decide) (Or.inl rfl) (tmX11_refuse e8) ?_
      have h := Option.some.inj h
      subst h
      exact pr_iret dX11_size_51 rfl
    · have h := pm_pos c_6 h
      refine pr_aload_n dX11_size_38 rfl ?_
      refine pr_getI dX11_size_39 lk_X11_190 lc_0 rfl ?_
      refine pr_if_ne (tgt := 52) dX11_size_42 rfl (by decide) (fun c_9 => ?_) (fun c_9 => ?_)
      · have h := pm_ng c_9 h
        refine pr_aload_n dX11_size_52 rfl ?_
        refine pr_iload_n dX11_size_53 rfl ?_
        obtain ⟨q10, e11, h⟩ := pm_bs h
        refine pr_callV (As := [pv_i x1]) (S := []) (t := 0) dX11_size_54 mk_X11_199 lc_0 (ci := 11) (q := (RX11, TX11, 11)) rfl rfl rfl rfl (by decide) (by decide) (by decide) (Or.inl rfl) (tmX11_sizePost e11) ?_
        have h := Option.some.inj h
        subst h
        exact pr_iret dX11_size_57 rfl
      · have h := pm_pos c_9 h
        refine pr_aload_n dX11_size_45 rfl ?_
        refine pr_bipush dX11_size_46 (by decide) ?_
        obtain ⟨q12, e13, h⟩ := pm_bs h
        refine pr_callV (As := [pv_i (-3)]) (S := []) (t := 0) dX11_size_48 mk_X11_69 lc_0 (ci := 11) (q := (RX11, TX11, 11)) rfl rfl rfl rfl (by decide) (by decide) (by decide) (Or.inl rfl) (tmX11_refuse e13) ?_
        have h := Option.some.inj h
        subst h
        exact pr_iret dX11_size_51 rfl
  · have h := pm_pos c_3 h
    refine pr_aload_n dX11_size_17 rfl ?_
    refine pr_iconst dX11_size_18 ?_
    obtain ⟨q14, e15, h⟩ := pm_bs h
    refine pr_callV (As := [pv_i (-1)]) (S := []) (t := 0) dX11_size_19 mk_X11_69 lc_0 (ci := 11) (q := (RX11, TX11, 11)) rfl rfl rfl rfl (by decide) (by decide) (by decide) (Or.inl rfl) (tmX11_refuse e15) ?_
    have h := Option.some.inj h
    subst h
    exact pr_iret dX11_size_22 rfl
def bdX11_sizeAll_4 (z1 : Int) (z2 : Int) (σ : pm_M) : Option ((Int × Int × pm_M) ⊕ (Int × Int × pm_M)) :=
  if (wr (σ 26 10)) ≤ (wr z2) then (some (.inl (z1, z2, σ))) else (if (wr (σ 0 9)) ≤ 0 then (some (.inl (z1, z2, σ))) else ((fX6_stateOf 15 z2 σ).bind fun q3 => if (wr q3) = 2 then ((fX11_sizePost z2 σ).bind fun q6 => some (.inr ((z1 + 1), (z2 + 1), q6.2))) else (some (.inr (z1, (z2 + 1), σ)))))
set_option maxHeartbeats 4000000 in
set_option maxRecDepth 100000 in
theorem tbX11_sizeAll_4 {lay0 lay' : List pm_S} {r : Option pm_V} {σ' : pm_M} : ∀ (a : Int × Int × pm_M) (e : (Int × Int × pm_M) ⊕ (Int × Int × pm_M)), (fun a => bdX11_sizeAll_4 a.1 a.2.1 a.2.2) a = some e → (∀ a, e = .inr a → (fun a => pm_J mX11_sizeAll 3 66 lay0 r lay' σ' 4 [some (pv_r 0), some (pv_i a.1), some (pv_i a.2.1)] [] LAYC a.2.2) a) → (∀ a, e = .inl a → (fun a => pm_J mX11_sizeAll 3 66 lay0 r lay' σ' 55 [none, some (pv_i a.1), none] [] LAYC a.2.2) a) → (fun a => pm_J mX11_sizeAll 3 66 lay0 r lay' σ' 4 [some (pv_r 0), some (pv_i a.1), some (pv_i a.2.1)] [] LAYC a.2.2) a := by
  intro a e h hc hx
  obtain ⟨z1, z2, σ⟩ := a
  have h : bdX11_sizeAll_4 z1 z2 σ = some e := h
  unfold bdX11_sizeAll_4 at h
  show pm_J mX11_sizeAll 3 66 lay0 r lay' σ' 4 [some (pv_r 0), some (pv_i z1), some (pv_i z2)] [] LAYC σ
  refine pr_iload_n dX11_sizeAll_4 rfl ?_
  refine pr_aload_n dX11_sizeAll_5 rfl ?_
  refine pr_getR dX11_sizeAll_6 lk_X11_28 lc_0 rfl ?_
  refine pr_getR dX11_sizeAll_9 lk_X11_44 lc_15 rfl ?_
  refine pr_getI dX11_sizeAll_12 lk_X11_202 lc_26 rfl ?_
  refine pr_icmp_ge (tgt := 55) dX11_sizeAll_15 rfl rfl (by decide) (fun c_1 => ?_) (fun c_1 => ?_)
  · have h := pm_pos c_1 h
    refine pr_weak (L2 := [none, some (pv_i z1), none]) ⟨Or.inl rfl, Or.inr rfl, Or.inl rfl, trivial⟩ ?_
    exact hx _ (Option.some.inj h).symm
  · have h := pm_ng c_1 h
    refine pr_aload_n dX11_sizeAll_18 rfl ?_
    refine pr_getI dX11_sizeAll_19 lk_X11_190 lc_0 rfl ?_
    refine pr_if_le (tgt := 55) dX11_sizeAll_22 rfl (by decide) (fun c_2 => ?_) (fun c_2 => ?_)
    · have h := pm_pos c_2 h
      refine pr_weak (L2 := [none, some (pv_i z1), none]) ⟨Or.inl rfl, Or.inr rfl, Or.inl rfl, trivial⟩ ?_
      exact hx _ (Option.some.inj h).symm
    · have h := pm_ng c_2 h
      refine pr_aload_n dX11_sizeAll_25 rfl ?_
      refine pr_getR dX11_sizeAll_26 lk_X11_28 lc_0 rfl ?_
      refine pr_getR dX11_sizeAll_29 lk_X11_44 lc_15 rfl ?_
      refine pr_iload_n dX11_sizeAll_32 rfl ?_
      obtain ⟨q3, e4, h⟩ := pm_bs h
      refine pr_callV (As := [pv_i z2]) (S := []) (t := 26) dX11_sizeAll_33 mk_X11_196 lc_26 (ci := 6) (q := (RX6, TX6, 12)) rfl rfl rfl rfl (by decide) (by decide) (by decide) (Or.inl rfl) (tmX6_stateOf (Or.inl rfl) e4) ?_
      refine pr_iconst dX11_sizeAll_36 ?_
      refine pr_icmp_ne (tgt := 49) dX11_sizeAll_37 rfl (wr_eq (by decide) (by decide)) (by decide) (fun c_5 => ?_) (fun c_5 => ?_)
      · have h := pm_ng c_5 h
        refine pr_iinc dX11_sizeAll_49 rfl (by decide) rfl ?_
        refine pr_goto (tgt := 4) dX11_sizeAll_52 (by decide) ?_
        refine pr_weak (L2 := [some (pv_r 0), some (pv_i z1), some (pv_i (z2 + 1))]) ⟨Or.inr rfl, Or.inr rfl, Or.inr rfl, trivial⟩ ?_
        exact hc _ (Option.some.inj h).symm
      · have h := pm_pos c_5 h
        refine pr_aload_n dX11_sizeAll_40 rfl ?_
        refine pr_iload_n dX11_sizeAll_41 rfl ?_
        obtain ⟨q6, e7, h⟩ := pm_bs h
        refine pr_callV (As := [pv_i z2]) (S := []) (t := 0) dX11_sizeAll_42 mk_X11_199 lc_0 (ci := 11) (q := (RX11, TX11, 11)) rfl rfl rfl rfl (by decide) (by decide) (by decide) (Or.inl rfl) (tmX11_sizePost e7) ?_
        refine pr_pop dX11_sizeAll_45 rfl ?_
        refine pr_iinc dX11_sizeAll_46 rfl (by decide) rfl ?_
        refine pr_iinc dX11_sizeAll_49 rfl (by decide) rfl ?_
        refine pr_goto (tgt := 4) dX11_sizeAll_52 (by decide) ?_
        refine pr_weak (L2 := [some (pv_r 0), some (pv_i (z1 + 1)), some (pv_i (z2 + 1))]) ⟨Or.inr rfl, Or.inr rfl, Or.inr rfl, trivial⟩ ?_
        exact hc _ (Option.some.inj h).symm
def fX11_sizeAll (σ : pm_M) : Option (Int × pm_M) :=
  (pm_it (fun a => bdX11_sizeAll_4 a.1 a.2.1 a.2.2) pm_fuel (0, 0, σ)).bind fun v8 => some (v8.1, v8.2.2)
set_option maxHeartbeats 4000000 in
set_option maxRecDepth 100000 in
theorem tmX11_sizeAll {σ : pm_M} {ρ : Int × pm_M} (h : fX11_sizeAll σ = some ρ) : pm_C mX11_sizeAll 3 66 [pv_r 0] LAYC σ (some (pv_i ρ.1)) LAYC ρ.2 := by
  refine pm_C.of rfl rfl (by decide) ?_
  show pm_J mX11_sizeAll 3 66 LAYC (some (pv_i ρ.1)) LAYC ρ.2 0 [some (pv_r 0), none, none] [] LAYC σ
  unfold fX11_sizeAll at h
  refine pr_iconst dX11_sizeAll_0 ?_
  refine pr_istore_n dX11_sizeAll_1 (by decide) rfl ?_
  refine pr_iconst dX11_sizeAll_2 ?_
  refine pr_istore_n dX11_sizeAll_3 (by decide) rfl ?_
  obtain ⟨v8, e9, h⟩ := pm_bs h
  refine pr_weak (L2 := [some (pv_r 0), some (pv_i 0), some (pv_i 0)]) ⟨Or.inr rfl, Or.inr rfl, Or.inr rfl, trivial⟩ ?_
  refine pm_it_J (P := fun a => pm_J mX11_sizeAll 3 66 LAYC (some (pv_i ρ.1)) LAYC ρ.2 4 [some (pv_r 0), some (pv_i a.1), some (pv_i a.2.1)] [] LAYC a.2.2) (Rx := fun a => pm_J mX11_sizeAll 3 66 LAYC (some (pv_i ρ.1)) LAYC ρ.2 55 [none, some (pv_i a.1), none] [] LAYC a.2.2) (tbX11_sizeAll_4) _ _ _ e9 ?_
  show pm_J mX11_sizeAll 3 66 LAYC (some (pv_i ρ.1)) LAYC ρ.2 55 [none, some (pv_i v8.1), none] [] LAYC v8.2.2
  refine pr_iload_n dX11_sizeAll_55 rfl ?_
  have h := Option.some.inj h
  subst h
  exact pr_iret dX11_sizeAll_56 rfl
