def fX12_dayOf (x1 : Int) (x2 : Int) (σ : pm_M) : Option (Int × pm_M) :=
  (fX12_isIn x1 101).bind fun q1 => if (wr q1) = 0 then ((fX12_refuse (-1) σ).bind fun q11 => some (q11.1, q11.2)) else ((fX12_isIn x2 3).bind fun q4 => if (wr q4) = 0 then ((fX12_refuse (-2) σ).bind fun q9 => some (q9.1, q9.2)) else ((fX12_reckoned x1 x2 σ).bind fun q7 => some (q7, σ)))
set_option maxHeartbeats 4000000 in
set_option maxRecDepth 100000 in
theorem tmX12_dayOf {x1 : Int} {x2 : Int} {σ : pm_M} {ρ : Int × pm_M} (h : fX12_dayOf x1 x2 σ = some ρ) : pm_C mX12_dayOf 1 25 [pv_r 0, pv_i x1, pv_i x2] LAYM σ (some (pv_i ρ.1)) LAYM ρ.2 := by
  refine pm_C.of (by decide) rfl (Nat.le_of_ble_eq_true rfl) ?_
  show pm_J mX12_dayOf 1 25 LAYM (some (pv_i ρ.1)) LAYM ρ.2 0 [some (pv_r 0), some (pv_i x1), some (pv_i x2)] [] LAYM σ
  unfold fX12_dayOf at h
  refine pr_iload_n dX12_dayOf_0 rfl ?_
  refine pr_bipush dX12_dayOf_1 (by decide) ?_
  obtain ⟨q1, e2, h⟩ := pm_bs h
  refine pr_callS (av := [pv_i x1, pv_i 101]) (S := []) dX12_dayOf_3 mk_X12_95 rfl rfl (Nat.le_of_ble_eq_true rfl) (by decide) (by decide) (Or.inl rfl) (tmX12_isIn e2) ?_
  refine pr_if_ne (tgt := 17) dX12_dayOf_6 rfl (by decide) (fun c_3 => ?_) (fun c_3 => ?_)
  · have h := pm_ng c_3 h
    refine pr_iload_n dX12_dayOf_17 rfl ?_
    refine pr_iconst dX12_dayOf_18 ?_
    obtain ⟨q4, e5, h⟩ := pm_bs h
    refine pr_callS (av := [pv_i x2, pv_i 3]) (S := []) dX12_dayOf_19 mk_X12_95 rfl rfl (Nat.le_of_ble_eq_true rfl) (by decide) (by decide) (Or.inl rfl) (tmX12_isIn e5) ?_
    refine pr_if_ne (tgt := 34) dX12_dayOf_22 rfl (by decide) (fun c_6 => ?_) (fun c_6 => ?_)
    · have h := pm_ng c_6 h
      refine pr_aload_n dX12_dayOf_34 rfl ?_
      refine pr_iload_n dX12_dayOf_35 rfl ?_
      refine pr_iload_n dX12_dayOf_36 rfl ?_
      obtain ⟨q7, e8, h⟩ := pm_bs h
      refine pr_callV (As := [pv_i x1, pv_i x2]) (S := []) (t := 0) dX12_dayOf_37 mk_X12_107 lm_0 (ci := 12) (q := (RX12, TX12, 36)) rfl rfl rfl rfl (Nat.le_of_ble_eq_true rfl) (by decide) (by decide) (Or.inl rfl) (tmX12_reckoned e8) ?_
      have h := Option.some.inj h
      subst h
      exact pr_iret dX12_dayOf_40 rfl
    · have h := pm_pos c_6 h
      refine pr_aload_n dX12_dayOf_25 rfl ?_
      refine pr_bipush dX12_dayOf_26 (by decide) ?_
      obtain ⟨q9, e10, h⟩ := pm_bs h
      refine pr_callV (As := [pv_i (-2)]) (S := []) (t := 0) dX12_dayOf_28 mk_X12_103 lm_0 (ci := 12) (q := (RX12, TX12, 36)) rfl rfl rfl rfl (Nat.le_of_ble_eq_true rfl) (by decide) (by decide) (Or.inl rfl) (tmX12_refuse e10) ?_
      refine pr_goto (tgt := 40) dX12_dayOf_31 (by decide) ?_
      have h := Option.some.inj h
      subst h
      exact pr_iret dX12_dayOf_40 rfl
  · have h := pm_pos c_3 h
    refine pr_aload_n dX12_dayOf_9 rfl ?_
    refine pr_iconst dX12_dayOf_10 ?_
    obtain ⟨q11, e12, h⟩ := pm_bs h
    refine pr_callV (As := [pv_i (-1)]) (S := []) (t := 0) dX12_dayOf_11 mk_X12_103 lm_0 (ci := 12) (q := (RX12, TX12, 36)) rfl rfl rfl rfl (Nat.le_of_ble_eq_true rfl) (by decide) (by decide) (Or.inl rfl) (tmX12_refuse e12) ?_
    refine pr_goto (tgt := 40) dX12_dayOf_14 (by decide) ?_
    have h := Option.some.inj h
    subst h
    exact pr_iret dX12_dayOf_40 rfl
def fX12_isKind (x1 : Int) (σ : pm_M) : Option (Int) :=
  (fX12_isIn x1 9).bind fun q1 => pm_g (q1 = 0 ∨ q1 = 1) (some q1)
set_option maxHeartbeats 4000000 in
set_option maxRecDepth 100000 in
theorem tmX12_isKind {x1 : Int} {σ : pm_M} {ρ : Int} (h : fX12_isKind x1 σ = some ρ) : pm_C mX12_isKind 1 21 [pv_r 0, pv_i x1] LAYM σ (some (pv_i ρ)) LAYM σ := by
  refine pm_C.of (by decide) rfl (Nat.le_of_ble_eq_true rfl) ?_
  show pm_J mX12_isKind 1 21 LAYM (some (pv_i ρ)) LAYM σ 0 [some (pv_r 0), some (pv_i x1)] [] LAYM σ
  unfold fX12_isKind at h
  refine pr_iload_n dX12_isKind_0 rfl ?_
  refine pr_bipush dX12_isKind_1 (by decide) ?_
  obtain ⟨q1, e2, h⟩ := pm_bs h
  refine pr_callS (av := [pv_i x1, pv_i 9]) (S := []) dX12_isKind_3 mk_X12_95 rfl rfl (Nat.le_of_ble_eq_true rfl) (by decide) (by decide) (Or.inl rfl) (tmX12_isIn e2) ?_
  obtain ⟨g_3, h⟩ := pm_gs h
  have h := Option.some.inj h
  subst h
  exact pr_zret dX12_isKind_6 rfl g_3
def fX12_kind (x1 : Int) (x2 : Int) (x3 : Int) (x4 : Int) (σ : pm_M) : Option (Int × pm_M) :=
  (fX12_isKind x1 σ).bind fun q1 => if (wr q1) = 0 then ((fX12_refuse (-1) σ).bind fun q25 => some (q25.1, q25.2)) else (if (wr x2) < 0 then ((fX12_refuse (-4) σ).bind fun q5 => some (q5.1, q5.2)) else (if (wr x3) < 1 then ((fX12_refuse (-4) σ).bind fun q8 => some (q8.1, q8.2)) else (if 1 ≤ (wr x4) then (if 20 < (wr x2) then ((fX12_refuse (-6) σ).bind fun q12 => some (q12.1, q12.2)) else (if 40 < (wr x3) then ((fX12_refuse (-6) σ).bind fun q15 => some (q15.1, q15.2)) else (if (wr x4) ≤ 30 then (pm_g (0 ≤ (wr x1) ∧ (wr x1) < 9) (pm_g (0 ≤ (wr x1) ∧ (wr x1) < 9) (pm_g (0 ≤ (wr x1) ∧ (wr x1) < 9) (some (1, (pm_up (pm_up (pm_up σ 3 (Int.toNat (wr x1)) x2) 4 (Int.toNat (wr x1)) x3) 5 (Int.toNat (wr x1)) x4)))))) else ((fX12_refuse (-6) σ).bind fun q21 => some (q21.1, q21.2))))) else ((fX12_refuse (-4) σ).bind fun q23 => some (q23.1, q23.2)))))
set_option maxHeartbeats 4000000 in
set_option maxRecDepth 100000 in
theorem tmX12_kind {x1 : Int} {x2 : Int} {x3 : Int} {x4 : Int} {σ : pm_M} {ρ : Int × pm_M} (h : fX12_kind x1 x2 x3 x4 σ = some ρ) : pm_C mX12_kind 2 42 [pv_r 0, pv_i x1, pv_i x2, pv_i x3, pv_i x4] LAYM σ (some (pv_i ρ.1)) LAYM ρ.2 := by
  refine pm_C.of (by decide) rfl (Nat.le_of_ble_eq_true rfl) ?_
  show pm_J mX12_kind 2 42 LAYM (some (pv_i ρ.1)) LAYM ρ.2 0 [some (pv_r 0), some (pv_i x1), some (pv_i x2), some (pv_i x3), some (pv_i x4)] [] LAYM σ
  unfold fX12_kind at h
  refine pr_aload_n dX12_kind_0 rfl ?_
  refine pr_iload_n dX12_kind_1 rfl ?_
  obtain ⟨q1, e2, h⟩ := pm_bs h
  refine pr_callV (As := [pv_i x1]) (S := []) (t := 0) dX12_kind_2 mk_X12_111 lm_0 (ci := 12) (q := (RX12, TX12, 36)) rfl rfl rfl rfl (Nat.le_of_ble_eq_true rfl) (by decide) (by decide) (Or.inl rfl) (tmX12_isKind e2) ?_
  refine pr_if_ne (tgt := 14) dX12_kind_5 rfl (by decide) (fun c_3 => ?_) (fun c_3 => ?_)
  · have h := pm_ng c_3 h
    refine pr_iload_n dX12_kind_14 rfl ?_
    refine pr_if_lt (tgt := 29) dX12_kind_15 rfl (by decide) (fun c_4 => ?_) (fun c_4 => ?_)
    · have h := pm_pos c_4 h
      refine pr_aload_n dX12_kind_29 rfl ?_
      refine pr_bipush dX12_kind_30 (by decide) ?_
      obtain ⟨q5, e6, h⟩ := pm_bs h
      refine pr_callV (As := [pv_i (-4)]) (S := []) (t := 0) dX12_kind_32 mk_X12_103 lm_0 (ci := 12) (q := (RX12, TX12, 36)) rfl rfl rfl rfl (Nat.le_of_ble_eq_true rfl) (by decide) (by decide) (Or.inl rfl) (tmX12_refuse e6) ?_
      have h := Option.some.inj h
      subst h
      exact pr_iret dX12_kind_35 rfl
    · have h := pm_ng c_4 h
      refine pr_iload_n dX12_kind_18 rfl ?_
      refine pr_iconst dX12_kind_19 ?_
      refine pr_icmp_lt (tgt := 29) dX12_kind_20 rfl (wr_eq (by decide) (by decide)) (by decide) (fun c_7 => ?_) (fun c_7 => ?_)
      · have h := pm_pos c_7 h
        refine pr_aload_n dX12_kind_29 rfl ?_
        refine pr_bipush dX12_kind_30 (by decide) ?_
        obtain ⟨q8, e9, h⟩ := pm_bs h
        refine pr_callV (As := [pv_i (-4)]) (S := []) (t := 0) dX12_kind_32 mk_X12_103 lm_0 (ci := 12) (q := (RX12, TX12, 36)) rfl rfl rfl rfl (Nat.le_of_ble_eq_true rfl) (by decide) (by decide) (Or.inl rfl) (tmX12_refuse e9) ?_
        have h := Option.some.inj h
        subst h
        exact pr_iret dX12_kind_35 rfl
      · have h := pm_ng c_7 h
        refine pr_iload dX12_kind_23 rfl ?_
        refine pr_iconst dX12_kind_25 ?_
        refine pr_icmp_ge (tgt := 36) dX12_kind_26 rfl (wr_eq (by decide) (by decide)) (by decide) (fun c_10 => ?_) (fun c_10 => ?_)
        · have h := pm_pos c_10 h
          refine pr_iload_n dX12_kind_36 rfl ?_
          refine pr_bipush dX12_kind_37 (by decide) ?_
          refine pr_icmp_gt (tgt := 55) dX12_kind_39 rfl (wr_eq (by decide) (by decide)) (by decide) (fun c_11 => ?_) (fun c_11 => ?_)
          · have h := pm_pos c_11 h
            refine pr_aload_n dX12_kind_55 rfl ?_
            refine pr_bipush dX12_kind_56 (by decide) ?_
            obtain ⟨q12, e13, h⟩ := pm_bs h
            refine pr_callV (As := [pv_i (-6)]) (S := []) (t := 0) dX12_kind_58 mk_X12_103 lm_0 (ci := 12) (q := (RX12, TX12, 36)) rfl rfl rfl rfl (Nat.le_of_ble_eq_true rfl) (by decide) (by decide) (Or.inl rfl) (tmX12_refuse e13) ?_
            have h := Option.some.inj h
            subst h
            exact pr_iret dX12_kind_61 rfl
          · have h := pm_ng c_11 h
            refine pr_iload_n dX12_kind_42 rfl ?_
            refine pr_bipush dX12_kind_43 (by decide) ?_
            refine pr_icmp_gt (tgt := 55) dX12_kind_45 rfl (wr_eq (by decide) (by decide)) (by decide) (fun c_14 => ?_) (fun c_14 => ?_)
            · have h := pm_pos c_14 h
              refine pr_aload_n dX12_kind_55 rfl ?_
              refine pr_bipush dX12_kind_56 (by decide) ?_
              obtain ⟨q15, e16, h⟩ := pm_bs h
              refine pr_callV (As := [pv_i (-6)]) (S := []) (t := 0) dX12_kind_58 mk_X12_103 lm_0 (ci := 12) (q := (RX12, TX12, 36)) rfl rfl rfl rfl (Nat.le_of_ble_eq_true rfl) (by decide) (by decide) (Or.inl rfl) (tmX12_refuse e16) ?_
              have h := Option.some.inj h
              subst h
              exact pr_iret dX12_kind_61 rfl
            · have h := pm_ng c_14 h
              refine pr_iload dX12_kind_48 rfl ?_
              refine pr_bipush dX12_kind_50 (by decide) ?_
              refine pr_icmp_le (tgt := 62) dX12_kind_52 rfl (wr_eq (by decide) (by decide)) (by decide) (fun c_17 => ?_) (fun c_17 => ?_)
              · have h := pm_pos c_17 h
                refine pr_aload_n dX12_kind_62 rfl ?_
                refine pr_getR dX12_kind_63 lk_X12_16 lm_0 rfl ?_
                refine pr_iload_n dX12_kind_66 rfl ?_
                refine pr_iload_n dX12_kind_67 rfl ?_
                obtain ⟨g_18, h⟩ := pm_gs h
                refine pr_iast dX12_kind_68 lm_3 rfl g_18 ?_
                refine pr_aload_n dX12_kind_69 rfl ?_
                refine pr_getR dX12_kind_70 lk_X12_19 lm_0 rfl ?_
                refine pr_iload_n dX12_kind_73 rfl ?_
                refine pr_iload_n dX12_kind_74 rfl ?_
                obtain ⟨g_19, h⟩ := pm_gs h
                refine pr_iast dX12_kind_75 lm_4 rfl g_19 ?_
                refine pr_aload_n dX12_kind_76 rfl ?_
                refine pr_getR dX12_kind_77 lk_X12_22 lm_0 rfl ?_
                refine pr_iload_n dX12_kind_80 rfl ?_
                refine pr_iload dX12_kind_81 rfl ?_
                obtain ⟨g_20, h⟩ := pm_gs h
                refine pr_iast dX12_kind_83 lm_5 rfl g_20 ?_
                refine pr_iconst dX12_kind_84 ?_
                have h := Option.some.inj h
                subst h
                exact pr_iret dX12_kind_85 rfl
              · have h := pm_ng c_17 h
                refine pr_aload_n dX12_kind_55 rfl ?_
                refine pr_bipush dX12_kind_56 (by decide) ?_
                obtain ⟨q21, e22, h⟩ := pm_bs h
                refine pr_callV (As := [pv_i (-6)]) (S := []) (t := 0) dX12_kind_58 mk_X12_103 lm_0 (ci := 12) (q := (RX12, TX12, 36)) rfl rfl rfl rfl (Nat.le_of_ble_eq_true rfl) (by decide) (by decide) (Or.inl rfl) (tmX12_refuse e22) ?_
                have h := Option.some.inj h
                subst h
                exact pr_iret dX12_kind_61 rfl
        · have h := pm_ng c_10 h
          refine pr_aload_n dX12_kind_29 rfl ?_
          refine pr_bipush dX12_kind_30 (by decide) ?_
          obtain ⟨q23, e24, h⟩ := pm_bs h
          refine pr_callV (As := [pv_i (-4)]) (S := []) (t := 0) dX12_kind_32 mk_X12_103 lm_0 (ci := 12) (q := (RX12, TX12, 36)) rfl rfl rfl rfl (Nat.le_of_ble_eq_true rfl) (by decide) (by decide) (Or.inl rfl) (tmX12_refuse e24) ?_
          have h := Option.some.inj h
          subst h
          exact pr_iret dX12_kind_35 rfl
  · have h := pm_pos c_3 h
    refine pr_aload_n dX12_kind_8 rfl ?_
    refine pr_iconst dX12_kind_9 ?_
    obtain ⟨q25, e26, h⟩ := pm_bs h
    refine pr_callV (As := [pv_i (-1)]) (S := []) (t := 0) dX12_kind_10 mk_X12_103 lm_0 (ci := 12) (q := (RX12, TX12, 36)) rfl rfl rfl rfl (Nat.le_of_ble_eq_true rfl) (by decide) (by decide) (Or.inl rfl) (tmX12_refuse e26) ?_
    have h := Option.some.inj h
    subst h
    exact pr_iret dX12_kind_13 rfl
def jnX12_rags_27 (w1 : Int) (w2 : Int) (u0 : Int) (σ : pm_M) : Option (Int × pm_M) :=
  if (wr u0) = 0 then (pm_g (0 ≤ (wr w1) ∧ (wr w1) < 9) (pm_g (0 ≤ (wr w1) ∧ (wr w1) < 9) (pm_g (0 ≤ (wr w1) ∧ (wr w1) < 9) (some (((pm_up σ 6 (Int.toNat (wr w1)) ((σ 6 (Int.toNat (wr w1))) + w2)) 6 (Int.toNat (wr w1))), (pm_up σ 6 (Int.toNat (wr w1)) ((σ 6 (Int.toNat (wr w1))) + w2))))))) else ((fX12_refuse u0 σ).bind fun q8 => some (q8.1, q8.2))
set_option maxHeartbeats 4000000 in
set_option maxRecDepth 100000 in
theorem tjX12_rags_27 {lay0 : List pm_S} {w1 : Int} {w2 : Int} {u0 : Int} {σ : pm_M} {ρ : Int × pm_M} (h : jnX12_rags_27 w1 w2 u0 σ = some ρ) : pm_J mX12_rags 2 42 lay0 (some (pv_i ρ.1)) LAYM ρ.2 27 [some (pv_r 0), some (pv_i w1), some (pv_i w2), none] [pv_i u0] LAYM σ := by
  unfold jnX12_rags_27 at h
  refine pr_istore_n dX12_rags_27 (by decide) rfl ?_
  refine pr_iload_n dX12_rags_28 rfl ?_
  refine pr_if_eq (tgt := 38) dX12_rags_29 rfl (by decide) (fun c_4 => ?_) (fun c_4 => ?_)
  · have h := pm_pos c_4 h
    refine pr_aload_n dX12_rags_38 rfl ?_
    refine pr_getR dX12_rags_39 lk_X12_25 lm_0 rfl ?_
    refine pr_iload_n dX12_rags_42 rfl ?_
    refine pr_dup2 dX12_rags_43 rfl rfl ?_
    obtain ⟨g_5, h⟩ := pm_gs h
    refine pr_iald dX12_rags_44 lm_6 rfl g_5 ?_
    refine pr_iload_n dX12_rags_45 rfl ?_
    refine pr_iadd dX12_rags_46 ?_
    obtain ⟨g_6, h⟩ := pm_gs h
    refine pr_iast dX12_rags_47 lm_6 rfl g_6 ?_
    refine pr_aload_n dX12_rags_48 rfl ?_
    refine pr_getR dX12_rags_49 lk_X12_25 lm_0 rfl ?_
    refine pr_iload_n dX12_rags_52 rfl ?_
    obtain ⟨g_7, h⟩ := pm_gs h
    refine pr_iald dX12_rags_53 lm_6 rfl g_7 ?_
    have h := Option.some.inj h
    subst h
    exact pr_iret dX12_rags_54 rfl
  · have h := pm_ng c_4 h
    refine pr_aload_n dX12_rags_32 rfl ?_
    refine pr_iload_n dX12_rags_33 rfl ?_
    obtain ⟨q8, e9, h⟩ := pm_bs h
    refine pr_callV (As := [pv_i u0]) (S := []) (t := 0) dX12_rags_34 mk_X12_103 lm_0 (ci := 12) (q := (RX12, TX12, 36)) rfl rfl rfl rfl (Nat.le_of_ble_eq_true rfl) (by decide) (by decide) (Or.inl rfl) (tmX12_refuse e9) ?_
    have h := Option.some.inj h
    subst h
    exact pr_iret dX12_rags_37 rfl
def fX12_rags (x1 : Int) (x2 : Int) (σ : pm_M) : Option (Int × pm_M) :=
  (fX12_isKind x1 σ).bind fun q1 => if (wr q1) = 0 then (jnX12_rags_27 x1 x2 (-1) σ) else (pm_g (0 ≤ (wr x1) ∧ (wr x1) < 9) ((fX12_wrong x2 1 (20000 - (σ 6 (Int.toNat (wr x1))))).bind fun q11 => jnX12_rags_27 x1 x2 q11 σ))
set_option maxHeartbeats 4000000 in
set_option maxRecDepth 100000 in
theorem tmX12_rags {x1 : Int} {x2 : Int} {σ : pm_M} {ρ : Int × pm_M} (h : fX12_rags x1 x2 σ = some ρ) : pm_C mX12_rags 2 42 [pv_r 0, pv_i x1, pv_i x2] LAYM σ (some (pv_i ρ.1)) LAYM ρ.2 := by
  refine pm_C.of (by decide) rfl (Nat.le_of_ble_eq_true rfl) ?_
  show pm_J mX12_rags 2 42 LAYM (some (pv_i ρ.1)) LAYM ρ.2 0 [some (pv_r 0), some (pv_i x1), some (pv_i x2), none] [] LAYM σ
  unfold fX12_rags at h
  refine pr_aload_n dX12_rags_0 rfl ?_
  refine pr_iload_n dX12_rags_1 rfl ?_
  obtain ⟨q1, e2, h⟩ := pm_bs h
  refine pr_callV (As := [pv_i x1]) (S := []) (t := 0) dX12_rags_2 mk_X12_111 lm_0 (ci := 12) (q := (RX12, TX12, 36)) rfl rfl rfl rfl (Nat.le_of_ble_eq_true rfl) (by decide) (by decide) (Or.inl rfl) (tmX12_isKind e2) ?_
  refine pr_if_eq (tgt := 26) dX12_rags_5 rfl (by decide) (fun c_3 => ?_) (fun c_3 => ?_)
  · have h := pm_pos c_3 h
    refine pr_iconst dX12_rags_26 ?_
    refine pr_weak (L2 := [some (pv_r 0), some (pv_i x1), some (pv_i x2), none]) ⟨Or.inr rfl, Or.inr rfl, Or.inr rfl, Or.inl rfl, trivial⟩ ?_
    exact tjX12_rags_27 h
  · have h := pm_ng c_3 h
    refine pr_iload_n dX12_rags_8 rfl ?_
    refine pr_iconst dX12_rags_9 ?_
    refine pr_sipush dX12_rags_10 (by decide) ?_
    refine pr_aload_n dX12_rags_13 rfl ?_
    refine pr_getR dX12_rags_14 lk_X12_25 lm_0 rfl ?_
    refine pr_iload_n dX12_rags_17 rfl ?_
    obtain ⟨g_10, h⟩ := pm_gs h
    refine pr_iald dX12_rags_18 lm_6 rfl g_10 ?_
    refine pr_isub dX12_rags_19 ?_
    obtain ⟨q11, e12, h⟩ := pm_bs h
    refine pr_callS (av := [pv_i x2, pv_i 1, pv_i (20000 - (σ 6 (Int.toNat (wr x1))))]) (S := []) dX12_rags_20 mk_X12_99 rfl rfl (Nat.le_of_ble_eq_true rfl) (by decide) (by decide) (Or.inl rfl) (tmX12_wrong e12) ?_
    refine pr_goto (tgt := 27) dX12_rags_23 (by decide) ?_
    refine pr_weak (L2 := [some (pv_r 0), some (pv_i x1), some (pv_i x2), none]) ⟨Or.inr rfl, Or.inr rfl, Or.inr rfl, Or.inl rfl, trivial⟩ ?_
    exact tjX12_rags_27 h
def jnX12_heap_54 (w1 : Int) (w2 : Int) (u0 : Int) (σ : pm_M) : Option (Int × pm_M) :=
  if (wr u0) = 0 then (pm_g (0 ≤ (wr w1) ∧ (wr w1) < 9) (pm_g (0 ≤ (wr w1) ∧ (wr w1) < 9) (pm_g (0 ≤ (wr ((pm_up σ 6 (Int.toNat (wr w1)) ((σ 6 (Int.toNat (wr w1))) - w2)) 0 15)) ∧ (wr ((pm_up σ 6 (Int.toNat (wr w1)) ((σ 6 (Int.toNat (wr w1))) - w2)) 0 15)) < 40) (pm_g (0 ≤ (wr ((pm_up (pm_up σ 6 (Int.toNat (wr w1)) ((σ 6 (Int.toNat (wr w1))) - w2)) 9 (Int.toNat (wr ((pm_up σ 6 (Int.toNat (wr w1)) ((σ 6 (Int.toNat (wr w1))) - w2)) 0 15))) w1) 0 15)) ∧ (wr ((pm_up (pm_up σ 6 (Int.toNat (wr w1)) ((σ 6 (Int.toNat (wr w1))) - w2)) 9 (Int.toNat (wr ((pm_up σ 6 (Int.toNat (wr w1)) ((σ 6 (Int.toNat (wr w1))) - w2)) 0 15))) w1) 0 15)) < 40) (pm_g (0 ≤ (wr (0 + ((pm_up (pm_up (pm_up σ 6 (Int.toNat (wr w1)) ((σ 6 (Int.toNat (wr w1))) - w2)) 9 (Int.toNat (wr ((pm_up σ 6 (Int.toNat (wr w1)) ((σ 6 (Int.toNat (wr w1))) - w2)) 0 15))) w1) 10 (Int.toNat (wr ((pm_up (pm_up σ 6 (Int.toNat (wr w1)) ((σ 6 (Int.toNat (wr w1))) - w2)) 9 (Int.toNat (wr ((pm_up σ 6 (Int.toNat (wr w1)) ((σ 6 (Int.toNat (wr w1))) - w2)) 0 15))) w1) 0 15))) ((pm_up (pm_up σ 6 (Int.toNat (wr w1)) ((σ 6 (Int.toNat (wr w1))) - w2)) 9 (Int.toNat (wr ((pm_up σ 6 (Int.toNat (wr w1)) ((σ 6 (Int.toNat (wr w1))) - w2)) 0 15))) w1) 25 (Int.toNat 751))) 0 15))) ∧ (wr (0 + ((pm_up (pm_up (pm_up σ 6 (Int.toNat (wr w1)) ((σ 6 (Int.toNat (wr w1))) - w2)) 9 (Int.toNat (wr ((pm_up σ 6 (Int.toNat (wr w1)) ((σ 6 (Int.toNat (wr w1))) - w2)) 0 15))) w1) 10 (Int.toNat (wr ((pm_up (pm_up σ 6 (Int.toNat (wr w1)) ((σ 6 (Int.toNat (wr w1))) - w2)) 9 (Int.toNat (wr ((pm_up σ 6 (Int.toNat (wr w1)) ((σ 6 (Int.toNat (wr w1))) - w2)) 0 15))) w1) 0 15))) ((pm_up (pm_up σ 6 (Int.toNat (wr w1)) ((σ 6 (Int.toNat (wr w1))) - w2)) 9 (Int.toNat (wr ((pm_up σ 6 (Int.toNat (wr w1)) ((σ 6 (Int.toNat (wr w1))) - w2)) 0 15))) w1) 25 (Int.toNat 751))) 0 15))) < 755) (some ((((pm_up (pm_up (pm_up (pm_up (pm_up σ 6 (Int.toNat (wr w1)) ((σ 6 (Int.toNat (wr w1))) - w2)) 9 (Int.toNat (wr ((pm_up σ 6 (Int.toNat (wr w1)) ((σ 6 (Int.toNat (wr w1))) - w2)) 0 15))) w1) 10 (Int.toNat (wr ((pm_up (pm_up σ 6 (Int.toNat (wr w1)) ((σ 6 (Int.toNat (wr w1))) - w2)) 9 (Int.toNat (wr ((pm_up σ 6 (Int.toNat (wr w1)) ((σ 6 (Int.toNat (wr w1))) - w2)) 0 15))) w1) 0 15))) ((pm_up (pm_up σ 6 (Int.toNat (wr w1)) ((σ 6 (Int.toNat (wr w1))) - w2)) 9 (Int.toNat (wr ((pm_up σ 6 (Int.toNat (wr w1)) ((σ 6 (Int.toNat (wr w1))) - w2)) 0 15))) w1) 25 (Int.toNat 751))) 25 (Int.toNat (wr (0 + ((pm_up (pm_up (pm_up σ 6 (Int.toNat (wr w1)) ((σ 6 (Int.toNat (wr w1))) - w2)) 9 (Int.toNat (wr ((pm_up σ 6 (Int.toNat (wr w1)) ((σ 6 (Int.toNat (wr w1))) - w2)) 0 15))) w1) 10 (Int.toNat (wr ((pm_up (pm_up σ 6 (Int.toNat (wr w1)) ((σ 6 (Int.toNat (wr w1))) - w2)) 9 (Int.toNat (wr ((pm_up σ 6 (Int.toNat (wr w1)) ((σ 6 (Int.toNat (wr w1))) - w2)) 0 15))) w1) 0 15))) ((pm_up (pm_up σ 6 (Int.toNat (wr w1)) ((σ 6 (Int.toNat (wr w1))) - w2)) 9 (Int.toNat (wr ((pm_up σ 6 (Int.toNat (wr w1)) ((σ 6 (Int.toNat (wr w1))) - w2)) 0 15))) w1) 25 (Int.toNat 751))) 0 15)))) w2) 0 15 (((pm_up (pm_up (pm_up (pm_up σ 6 (Int.toNat (wr w1)) ((σ 6 (Int.toNat (wr w1))) - w2)) 9 (Int.toNat (wr ((pm_up σ 6 (Int.toNat (wr w1)) ((σ 6 (Int.toNat (wr w1))) - w2)) 0 15))) w1) 10 (Int.toNat (wr ((pm_up (pm_up σ 6 (Int.toNat (wr w1)) ((σ 6 (Int.toNat (wr w1))) - w2)) 9 (Int.toNat (wr ((pm_up σ 6 (Int.toNat (wr w1)) ((σ 6 (Int.toNat (wr w1))) - w2)) 0 15))) w1) 0 15))) ((pm_up (pm_up σ 6 (Int.toNat (wr w1)) ((σ 6 (Int.toNat (wr w1))) - w2)) 9 (Int.toNat (wr ((pm_up σ 6 (Int.toNat (wr w1)) ((σ 6 (Int.toNat (wr w1))) - w2)) 0 15))) w1) 25 (Int.toNat 751))) 25 (Int.toNat (wr (0 + ((pm_up (pm_up (pm_up σ 6 (Int.toNat (wr w1)) ((σ 6 (Int.toNat (wr w1))) - w2)) 9 (Int.toNat (wr ((pm_up σ 6 (Int.toNat (wr w1)) ((σ 6 (Int.toNat (wr w1))) - w2)) 0 15))) w1) 10 (Int.toNat (wr ((pm_up (pm_up σ 6 (Int.toNat (wr w1)) ((σ 6 (Int.toNat (wr w1))) - w2)) 9 (Int.toNat (wr ((pm_up σ 6 (Int.toNat (wr w1)) ((σ 6 (Int.toNat (wr w1))) - w2)) 0 15))) w1) 0 15))) ((pm_up (pm_up σ 6 (Int.toNat (wr w1)) ((σ 6 (Int.toNat (wr w1))) - w2)) 9 (Int.toNat (wr ((pm_up σ 6 (Int.toNat (wr w1)) ((σ 6 (Int.toNat (wr w1))) - w2)) 0 15))) w1) 25 (Int.toNat 751))) 0 15)))) w2) 0 15) + 1)) 0 15) - 1), (pm_up (pm_up (pm_up (pm_up (pm_up σ 6 (Int.toNat (wr w1)) ((σ 6 (Int.toNat (wr w1))) - w2)) 9 (Int.toNat (wr ((pm_up σ 6 (Int.toNat (wr w1)) ((σ 6 (Int.toNat (wr w1))) - w2)) 0 15))) w1) 10 (Int.toNat (wr ((pm_up (pm_up σ 6 (Int.toNat (wr w1)) ((σ 6 (Int.toNat (wr w1))) - w2)) 9 (Int.toNat (wr ((pm_up σ 6 (Int.toNat (wr w1)) ((σ 6 (Int.toNat (wr w1))) - w2)) 0 15))) w1) 0 15))) ((pm_up (pm_up σ 6 (Int.toNat (wr w1)) ((σ 6 (Int.toNat (wr w1))) - w2)) 9 (Int.toNat (wr ((pm_up σ 6 (Int.toNat (wr w1)) ((σ 6 (Int.toNat (wr w1))) - w2)) 0 15))) w1) 25 (Int.toNat 751))) 25 (Int.toNat (wr (0 + ((pm_up (pm_up (pm_up σ 6 (Int.toNat (wr w1)) ((σ 6 (Int.toNat (wr w1))) - w2)) 9 (Int.toNat (wr ((pm_up σ 6 (Int.toNat (wr w1)) ((σ 6 (Int.toNat (wr w1))) - w2)) 0 15))) w1) 10 (Int.toNat (wr ((pm_up (pm_up σ 6 (Int.toNat (wr w1)) ((σ 6 (Int.toNat (wr w1))) - w2)) 9 (Int.toNat (wr ((pm_up σ 6 (Int.toNat (wr w1)) ((σ 6 (Int.toNat (wr w1))) - w2)) 0 15))) w1) 0 15))) ((pm_up (pm_up σ 6 (Int.toNat (wr w1)) ((σ 6 (Int.toNat (wr w1))) - w2)) 9 (Int.toNat (wr ((pm_up σ 6 (Int.toNat (wr w1)) ((σ 6 (Int.toNat (wr w1))) - w2)) 0 15))) w1) 25 (Int.toNat 751))) 0 15)))) w2) 0 15 (((pm_up (pm_up (pm_up (pm_up σ 6 (Int.toNat (wr w1)) ((σ 6 (Int.toNat (wr w1))) - w2)) 9 (Int.toNat (wr ((pm_up σ 6 (Int.toNat (wr w1)) ((σ 6 (Int.toNat (wr w1))) - w2)) 0 15))) w1) 10 (Int.toNat (wr ((pm_up (pm_up σ 6 (Int.toNat (wr w1)) ((σ 6 (Int.toNat (wr w1))) - w2)) 9 (Int.toNat (wr ((pm_up σ 6 (Int.toNat (wr w1)) ((σ 6 (Int.toNat (wr w1))) - w2)) 0 15))) w1) 0 15))) ((pm_up (pm_up σ 6 (Int.toNat (wr w1)) ((σ 6 (Int.toNat (wr w1))) - w2)) 9 (Int.toNat (wr ((pm_up σ 6 (Int.toNat (wr w1)) ((σ 6 (Int.toNat (wr w1))) - w2)) 0 15))) w1) 25 (Int.toNat 751))) 25 (Int.toNat (wr (0 + ((pm_up (pm_up (pm_up σ 6 (Int.toNat (wr w1)) ((σ 6 (Int.toNat (wr w1))) - w2)) 9 (Int.toNat (wr ((pm_up σ 6 (Int.toNat (wr w1)) ((σ 6 (Int.toNat (wr w1))) - w2)) 0 15))) w1) 10 (Int.toNat (wr ((pm_up (pm_up σ 6 (Int.toNat (wr w1)) ((σ 6 (Int.toNat (wr w1))) - w2)) 9 (Int.toNat (wr ((pm_up σ 6 (Int.toNat (wr w1)) ((σ 6 (Int.toNat (wr w1))) - w2)) 0 15))) w1) 0 15))) ((pm_up (pm_up σ 6 (Int.toNat (wr w1)) ((σ 6 (Int.toNat (wr w1))) - w2)) 9 (Int.toNat (wr ((pm_up σ 6 (Int.toNat (wr w1)) ((σ 6 (Int.toNat (wr w1))) - w2)) 0 15))) w1) 25 (Int.toNat 751))) 0 15)))) w2) 0 15) + 1))))))))) else ((fX12_refuse u0 σ).bind fun q12 => some (q12.1, q12.2))
set_option maxHeartbeats 4000000 in
set_option maxRecDepth 100000 in
theorem tjX12_heap_54 {lay0 : List pm_S} {w1 : Int} {w2 : Int} {u0 : Int} {σ : pm_M} {ρ : Int × pm_M} (h : jnX12_heap_54 w1 w2 u0 σ = some ρ) : pm_J mX12_heap 2 42 lay0 (some (pv_i ρ.1)) LAYM ρ.2 54 [some (pv_r 0), some (pv_i w1), some (pv_i w2), none] [pv_i u0] LAYM σ := by
  unfold jnX12_heap_54 at h
  refine pr_istore_n dX12_heap_54 (by decide) rfl ?_
  refine pr_iload_n dX12_heap_55 rfl ?_
  refine pr_if_eq (tgt := 65) dX12_heap_56 rfl (by decide) (fun c_6 => ?_) (fun c_6 => ?_)
  · have h := pm_pos c_6 h
    refine pr_aload_n dX12_heap_65 rfl ?_
    refine pr_getR dX12_heap_66 lk_X12_25 lm_0 rfl ?_
    refine pr_iload_n dX12_heap_69 rfl ?_
    refine pr_dup2 dX12_heap_70 rfl rfl ?_
    obtain ⟨g_7, h⟩ := pm_gs h
    refine pr_iald dX12_heap_71 lm_6 rfl g_7 ?_
    refine pr_iload_n dX12_heap_72 rfl ?_
    refine pr_isub dX12_heap_73 ?_
    obtain ⟨g_8, h⟩ := pm_gs h
    refine pr_iast dX12_heap_74 lm_6 rfl g_8 ?_
    refine pr_aload_n dX12_heap_75 rfl ?_
    refine pr_getR dX12_heap_76 lk_X12_34 lm_0 rfl ?_
    refine pr_aload_n dX12_heap_79 rfl ?_
    refine pr_getI dX12_heap_80 lk_X12_115 lm_0 rfl ?_
    refine pr_iload_n dX12_heap_83 rfl ?_
    obtain ⟨g_9, h⟩ := pm_gs h
    refine pr_iast dX12_heap_84 lm_9 rfl g_9 ?_
    refine pr_aload_n dX12_heap_85 rfl ?_
    refine pr_getR dX12_heap_86 lk_X12_37 lm_0 rfl ?_
    refine pr_aload_n dX12_heap_89 rfl ?_
    refine pr_getI dX12_heap_90 lk_X12_115 lm_0 rfl ?_
    refine pr_aload_n dX12_heap_93 rfl ?_
    refine pr_getR dX12_heap_94 lk_X12_86 lm_0 rfl ?_
    refine pr_sipush dX12_heap_97 (by decide) ?_
    refine pr_iald dX12_heap_100 lm_25 (wr_eq (by decide) (by decide)) ⟨by decide, by decide⟩ ?_
    obtain ⟨g_10, h⟩ := pm_gs h
    refine pr_iast dX12_heap_101 lm_10 rfl g_10 ?_
    refine pr_aload_n dX12_heap_102 rfl ?_
    refine pr_getR dX12_heap_103 lk_X12_86 lm_0 rfl ?_
    refine pr_iconst dX12_heap_106 ?_
    refine pr_aload_n dX12_heap_107 rfl ?_
    refine pr_getI dX12_heap_108 lk_X12_115 lm_0 rfl ?_
    refine pr_iadd dX12_heap_111 ?_
    refine pr_iload_n dX12_heap_112 rfl ?_
    obtain ⟨g_11, h⟩ := pm_gs h
    refine pr_iast dX12_heap_113 lm_25 rfl g_11 ?_
    refine pr_aload_n dX12_heap_114 rfl ?_
    refine pr_dup dX12_heap_115 rfl ?_
    refine pr_getI dX12_heap_116 lk_X12_115 lm_0 rfl ?_
    refine pr_iconst dX12_heap_119 ?_
    refine pr_iadd dX12_heap_120 ?_
    refine pr_putI dX12_heap_121 lp_X12_115 lm_0 rfl ?_
    refine pr_aload_n dX12_heap_124 rfl ?_
    refine pr_getI dX12_heap_125 lk_X12_115 lm_0 rfl ?_
    refine pr_iconst dX12_heap_128 ?_
    refine pr_isub dX12_heap_129 ?_
    have h := Option.some.inj h
    subst h
    exact pr_iret dX12_heap_130 rfl
  · have h := pm_ng c_6 h
    refine pr_aload_n dX12_heap_59 rfl ?_
    refine pr_iload_n dX12_heap_60 rfl ?_
    obtain ⟨q12, e13, h⟩ := pm_bs h
    refine pr_callV (As := [pv_i u0]) (S := []) (t := 0) dX12_heap_61 mk_X12_103 lm_0 (ci := 12) (q := (RX12, TX12, 36)) rfl rfl rfl rfl (Nat.le_of_ble_eq_true rfl) (by decide) (by decide) (Or.inl rfl) (tmX12_refuse e13) ?_
    have h := Option.some.inj h
    subst h
    exact pr_iret dX12_heap_64 rfl
def jnX12_heap_48 (w1 : Int) (w2 : Int) (σ : pm_M) : Option (Int × pm_M) :=
  jnX12_heap_54 w1 w2 (-6) σ
set_option maxHeartbeats 4000000 in
set_option maxRecDepth 100000 in
theorem tjX12_heap_48 {lay0 : List pm_S} {w1 : Int} {w2 : Int} {σ : pm_M} {ρ : Int × pm_M} (h : jnX12_heap_48 w1 w2 σ = some ρ) : pm_J mX12_heap 2 42 lay0 (some (pv_i ρ.1)) LAYM ρ.2 48 [some (pv_r 0), some (pv_i w1), some (pv_i w2), none] [] LAYM σ := by
  unfold jnX12_heap_48 at h
  refine pr_bipush dX12_heap_48 (by decide) ?_
  refine pr_goto (tgt := 54) dX12_heap_50 (by decide) ?_
  refine pr_weak (L2 := [some (pv_r 0), some (pv_i w1), some (pv_i w2), none]) ⟨Or.inr rfl, Or.inr rfl, Or.inr rfl, Or.inl rfl, trivial⟩ ?_
  exact tjX12_heap_54 h
def fX12_heap (x1 : Int) (x2 : Int) (σ : pm_M) : Option (Int × pm_M) :=
  (fX12_isKind x1 σ).bind fun q1 => if (wr q1) = 0 then (jnX12_heap_54 x1 x2 (-1) σ) else (if 1 ≤ (wr x2) then (if 400 < (wr x2) then (jnX12_heap_48 x1 x2 σ) else (pm_g (0 ≤ (wr x1) ∧ (wr x1) < 9) (if (wr (σ 6 (Int.toNat (wr x1)))) < (wr x2) then (jnX12_heap_48 x1 x2 σ) else (if (wr (σ 0 15)) = 40 then (jnX12_heap_48 x1 x2 σ) else (jnX12_heap_54 x1 x2 0 σ))))) else (jnX12_heap_54 x1 x2 (-4) σ))
set_option maxHeartbeats 4000000 in
set_option maxRecDepth 100000 in
theorem tmX12_heap {x1 : Int} {x2 : Int} {σ : pm_M} {ρ : Int × pm_M} (h : fX12_heap x1 x2 σ = some ρ) : pm_C mX12_heap 2 42 [pv_r 0, pv_i x1, pv_i x2] LAYM σ (some (pv_i ρ.1)) LAYM ρ.2 := by
  refine pm_C.of (by decide) rfl (Nat.le_of_ble_eq_true rfl) ?_
  show pm_J mX12_heap 2 42 LAYM (some (pv_i ρ.1)) LAYM ρ.2 0 [some (pv_r 0), some (pv_i x1), some (pv_i x2), none] [] LAYM σ
  unfold fX12_heap at h
  refine pr_aload_n dX12_heap_0 rfl ?_
  refine pr_iload_n dX12_heap_1 rfl ?_
  obtain ⟨q1, e2, h⟩ := pm_bs h
  refine pr_callV (As := [pv_i x1]) (S := []) (t := 0) dX12_heap_2 mk_X12_111 lm_0 (ci := 12) (q := (RX12, TX12, 36)) rfl rfl rfl rfl (Nat.le_of_ble_eq_true rfl) (by decide) (by decide) (Or.inl rfl) (tmX12_isKind e2) ?_
  refine pr_if_ne (tgt := 12) dX12_heap_5 rfl (by decide) (fun c_3 => ?_) (fun c_3 => ?_)
  · have h := pm_ng c_3 h
    refine pr_iload_n dX12_heap_12 rfl ?_
    refine pr_iconst dX12_heap_13 ?_
    refine pr_icmp_ge (tgt := 22) dX12_heap_14 rfl (wr_eq (by decide) (by decide)) (by decide) (fun c_4 => ?_) (fun c_4 => ?_)
    · have h := pm_pos c_4 h
      refine pr_iload_n dX12_heap_22 rfl ?_
      refine pr_sipush dX12_heap_23 (by decide) ?_
      refine pr_icmp_gt (tgt := 48) dX12_heap_26 rfl (wr_eq (by decide) (by decide)) (by decide) (fun c_5 => ?_) (fun c_5 => ?_)
      · have h := pm_pos c_5 h
        refine pr_weak (L2 := [some (pv_r 0), some (pv_i x1), some (pv_i x2), none]) ⟨Or.inr rfl, Or.inr rfl, Or.inr rfl, Or.inl rfl, trivial⟩ ?_
        exact tjX12_heap_48 h
      · have h := pm_ng c_5 h
        refine pr_iload_n dX12_heap_29 rfl ?_
        refine pr_aload_n dX12_heap_30 rfl ?_
        refine pr_getR dX12_heap_31 lk_X12_25 lm_0 rfl ?_
        refine pr_iload_n dX12_heap_34 rfl ?_
        obtain ⟨g_14, h⟩ := pm_gs h
        refine pr_iald dX12_heap_35 lm_6 rfl g_14 ?_
        refine pr_icmp_gt (tgt := 48) dX12_heap_36 rfl rfl (by decide) (fun c_15 => ?_) (fun c_15 => ?_)
        · have h := pm_pos c_15 h
          refine pr_weak (L2 := [some (pv_r 0), some (pv_i x1), some (pv_i x2), none]) ⟨Or.inr rfl, Or.inr rfl, Or.inr rfl, Or.inl rfl, trivial⟩ ?_
          exact tjX12_heap_48 h
        · have h := pm_ng c_15 h
          refine pr_aload_n dX12_heap_39 rfl ?_
          refine pr_getI dX12_heap_40 lk_X12_115 lm_0 rfl ?_
          refine pr_bipush dX12_heap_43 (by decide) ?_
          refine pr_icmp_ne (tgt := 53) dX12_heap_45 rfl (wr_eq (by decide) (by decide)) (by decide) (fun c_16 => ?_) (fun c_16 => ?_)
          · have h := pm_ng c_16 h
            refine pr_iconst dX12_heap_53 ?_
            refine pr_weak (L2 := [some (pv_r 0), some (pv_i x1), some (pv_i x2), none]) ⟨Or.inr rfl, Or.inr rfl, Or.inr rfl, Or.inl rfl, trivial⟩ ?_
            exact tjX12_heap_54 h
          · have h := pm_pos c_16 h
            refine pr_weak (L2 := [some (pv_r 0), some (pv_i x1), some (pv_i x2), none]) ⟨Or.inr rfl, Or.inr rfl, Or.inr rfl, Or.inl rfl, trivial⟩ ?_
            exact tjX12_heap_48 h
    · have h := pm_ng c_4 h
      refine pr_bipush dX12_heap_17 (by decide) ?_
      refine pr_goto (tgt := 54) dX12_heap_19 (by decide) ?_
      refine pr_weak (L2 := [some (pv_r 0), some (pv_i x1), some (pv_i x2), none]) ⟨Or.inr rfl, Or.inr rfl, Or.inr rfl, Or.inl rfl, trivial⟩ ?_
      exact tjX12_heap_54 h
  · have h := pm_pos c_3 h
    refine pr_iconst dX12_heap_8 ?_
    refine pr_goto (tgt := 54) dX12_heap_9 (by decide) ?_
    refine pr_weak (L2 := [some (pv_r 0), some (pv_i x1), some (pv_i x2), none]) ⟨Or.inr rfl, Or.inr rfl, Or.inr rfl, Or.inl rfl, trivial⟩ ?_
    exact tjX12_heap_54 h
