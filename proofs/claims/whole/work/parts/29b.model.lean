def fX12_mouldOf (x1 : Int) (x2 : Int) (σ : pm_M) : Option (Int × pm_M) :=
  (fX12_isIn x1 (2 * (σ 0 16))).bind fun q1 => if (wr q1) = 0 then ((fX12_refuse (-1) σ).bind fun q12 => some (q12.1, q12.2)) else ((fX12_isIn x2 7).bind fun q4 => if (wr q4) = 0 then ((fX12_refuse (-2) σ).bind fun q10 => some (q10.1, q10.2)) else (if (wr x2) = 6 then (pm_g (0 ≤ (wr x1) ∧ (wr x1) < 8) (some ((σ 13 (Int.toNat (wr x1))), σ))) else (pm_g (0 ≤ (wr ((6 * x1) + x2)) ∧ (wr ((6 * x1) + x2)) < 48) (some ((σ 12 (Int.toNat (wr ((6 * x1) + x2)))), σ)))))
set_option maxHeartbeats 4000000 in
set_option maxRecDepth 100000 in
theorem tmX12_mouldOf {x1 : Int} {x2 : Int} {σ : pm_M} {ρ : Int × pm_M} (h : fX12_mouldOf x1 x2 σ = some ρ) : pm_C mX12_mouldOf 1 21 [pv_r 0, pv_i x1, pv_i x2] LAYM σ (some (pv_i ρ.1)) LAYM ρ.2 := by
  refine pm_C.of rfl rfl (by decide) ?_
  show pm_J mX12_mouldOf 1 21 LAYM (some (pv_i ρ.1)) LAYM ρ.2 0 [some (pv_r 0), some (pv_i x1), some (pv_i x2)] [] LAYM σ
  unfold fX12_mouldOf at h
  refine pr_iload_n dX12_mouldOf_0 rfl ?_
  refine pr_iconst dX12_mouldOf_1 ?_
  refine pr_aload_n dX12_mouldOf_2 rfl ?_
  refine pr_getI dX12_mouldOf_3 lk_X12_129 lm_0 rfl ?_
  refine pr_imul dX12_mouldOf_6 ?_
  obtain ⟨q1, e2, h⟩ := pm_bs h
  refine pr_callS (av := [pv_i x1, pv_i (2 * (σ 0 16))]) (S := []) dX12_mouldOf_7 mk_X12_95 rfl rfl (by decide) (by decide) (by decide) (Or.inl rfl) (tmX12_isIn e2) ?_
  refine pr_if_ne (tgt := 19) dX12_mouldOf_10 rfl (by decide) (fun c_3 => ?_) (fun c_3 => ?_)
  · have h := pm_ng c_3 h
    refine pr_iload_n dX12_mouldOf_19 rfl ?_
    refine pr_bipush dX12_mouldOf_20 (by decide) ?_
    obtain ⟨q4, e5, h⟩ := pm_bs h
    refine pr_callS (av := [pv_i x2, pv_i 7]) (S := []) dX12_mouldOf_22 mk_X12_95 rfl rfl (by decide) (by decide) (by decide) (Or.inl rfl) (tmX12_isIn e5) ?_
    refine pr_if_ne (tgt := 35) dX12_mouldOf_25 rfl (by decide) (fun c_6 => ?_) (fun c_6 => ?_)
    · have h := pm_ng c_6 h
      refine pr_iload_n dX12_mouldOf_35 rfl ?_
      refine pr_bipush dX12_mouldOf_36 (by decide) ?_
      refine pr_icmp_ne (tgt := 50) dX12_mouldOf_38 rfl (wr_eq (by decide) (by decide)) (by decide) (fun c_7 => ?_) (fun c_7 => ?_)
      · have h := pm_ng c_7 h
        refine pr_aload_n dX12_mouldOf_50 rfl ?_
        refine pr_getR dX12_mouldOf_51 lk_X12_43 lm_0 rfl ?_
        refine pr_bipush dX12_mouldOf_54 (by decide) ?_
        refine pr_iload_n dX12_mouldOf_56 rfl ?_
        refine pr_imul dX12_mouldOf_57 ?_
        refine pr_iload_n dX12_mouldOf_58 rfl ?_
        refine pr_iadd dX12_mouldOf_59 ?_
        obtain ⟨g_8, h⟩ := pm_gs h
        refine pr_iald dX12_mouldOf_60 lm_12 rfl g_8 ?_
        have h := Option.some.inj h
        subst h
        exact pr_iret dX12_mouldOf_61 rfl
      · have h := pm_pos c_7 h
        refine pr_aload_n dX12_mouldOf_41 rfl ?_
        refine pr_getR dX12_mouldOf_42 lk_X12_46 lm_0 rfl ?_
        refine pr_iload_n dX12_mouldOf_45 rfl ?_
        obtain ⟨g_9, h⟩ := pm_gs h
        refine pr_iald dX12_mouldOf_46 lm_13 rfl g_9 ?_
        refine pr_goto (tgt := 61) dX12_mouldOf_47 (by decide) ?_
        have h := Option.some.inj h
        subst h
        exact pr_iret dX12_mouldOf_61 rfl
    · have h := pm_pos c_6 h
      refine pr_aload_n dX12_mouldOf_28 rfl ?_
      refine pr_bipush dX12_mouldOf_29 (by decide) ?_
      obtain ⟨q10, e11, h⟩ := pm_bs h
      refine pr_callV (As := [pv_i (-2)]) (S := []) (t := 0) dX12_mouldOf_31 mk_X12_103 lm_0 (ci := 12) (q := (RX12, TX12, 36)) rfl rfl rfl rfl (by decide) (by decide) (by decide) (Or.inl rfl) (tmX12_refuse e11) ?_
      have h := Option.some.inj h
      subst h
      exact pr_iret dX12_mouldOf_34 rfl
  · have h := pm_pos c_3 h
    refine pr_aload_n dX12_mouldOf_13 rfl ?_
    refine pr_iconst dX12_mouldOf_14 ?_
    obtain ⟨q12, e13, h⟩ := pm_bs h
    refine pr_callV (As := [pv_i (-1)]) (S := []) (t := 0) dX12_mouldOf_15 mk_X12_103 lm_0 (ci := 12) (q := (RX12, TX12, 36)) rfl rfl rfl rfl (by decide) (by decide) (by decide) (Or.inl rfl) (tmX12_refuse e13) ?_
    have h := Option.some.inj h
    subst h
    exact pr_iret dX12_mouldOf_18 rfl
def bdX12_vat_53 (y1 : Int) (y2 : Int) (σ : pm_M) (z3 : Int) (z4 : Int) : Option ((Int × Int) ⊕ (Int × Int)) :=
  if 3 ≤ (wr z4) then (some (.inl (z3, z4))) else (if (wr z3) = 0 then (if (wr z4) = (wr y1) then (some (.inr (0, (z4 + 1)))) else (if (wr y2) < 0 then (some (.inr (0, (z4 + 1)))) else (pm_g (0 ≤ (wr z4) ∧ (wr z4) < 3) (if (wr (σ 14 (Int.toNat (wr z4)))) = (wr y2) then (some (.inr (1, (z4 + 1)))) else (some (.inr (0, (z4 + 1)))))))) else (some (.inr (1, (z4 + 1)))))
set_option maxHeartbeats 4000000 in
set_option maxRecDepth 100000 in
theorem tbX12_vat_53 {lay0 lay' : List pm_S} {r : Option pm_V} {σ' : pm_M} (y1 : Int) (y2 : Int) (σ : pm_M) : ∀ (a : Int × Int) (e : (Int × Int) ⊕ (Int × Int)), (fun a => bdX12_vat_53 y1 y2 σ a.1 a.2) a = some e → (∀ a, e = .inr a → (fun a => pm_J mX12_vat 1 21 lay0 r lay' σ' 53 [some (pv_r 0), some (pv_i y1), some (pv_i y2), some (pv_i a.1), some (pv_i a.2)] [] LAYM σ) a) → (∀ a, e = .inl a → (fun a => pm_J mX12_vat 1 21 lay0 r lay' σ' 96 [some (pv_r 0), some (pv_i y1), some (pv_i y2), some (pv_i a.1), none] [] LAYM σ) a) → (fun a => pm_J mX12_vat 1 21 lay0 r lay' σ' 53 [some (pv_r 0), some (pv_i y1), some (pv_i y2), some (pv_i a.1), some (pv_i a.2)] [] LAYM σ) a := by
  intro a e h hc hx
  obtain ⟨z3, z4⟩ := a
  have h : bdX12_vat_53 y1 y2 σ z3 z4 = some e := h
  unfold bdX12_vat_53 at h
  show pm_J mX12_vat 1 21 lay0 r lay' σ' 53 [some (pv_r 0), some (pv_i y1), some (pv_i y2), some (pv_i z3), some (pv_i z4)] [] LAYM σ
  refine pr_iload dX12_vat_53 rfl ?_
  refine pr_iconst dX12_vat_55 ?_
  refine pr_icmp_ge (tgt := 96) dX12_vat_56 rfl (wr_eq (by decide) (by decide)) (by decide) (fun c_9 => ?_) (fun c_9 => ?_)
  · have h := pm_pos c_9 h
    refine pr_weak (L2 := [some (pv_r 0), some (pv_i y1), some (pv_i y2), some (pv_i z3), none]) ⟨Or.inr rfl, Or.inr rfl, Or.inr rfl, Or.inr rfl, Or.inl rfl, trivial⟩ ?_
    exact hx _ (Option.some.inj h).symm
  · have h := pm_ng c_9 h
    refine pr_iload_n dX12_vat_59 rfl ?_
    refine pr_if_ne (tgt := 84) dX12_vat_60 rfl (by decide) (fun c_10 => ?_) (fun c_10 => ?_)
    · have h := pm_ng c_10 h
      refine pr_iconst dX12_vat_84 ?_
      refine pr_goto (tgt := 89) dX12_vat_85 (by decide) ?_
      refine pr_istore_n dX12_vat_89 (by decide) rfl ?_
      refine pr_iinc dX12_vat_90 rfl (by decide) rfl ?_
      refine pr_goto (tgt := 53) dX12_vat_93 (by decide) ?_
      refine pr_weak (L2 := [some (pv_r 0), some (pv_i y1), some (pv_i y2), some (pv_i 1), some (pv_i (z4 + 1))]) ⟨Or.inr rfl, Or.inr rfl, Or.inr rfl, Or.inr rfl, Or.inr rfl, trivial⟩ ?_
      exact hc _ (Option.some.inj h).symm
    · have h := pm_pos c_10 h
      refine pr_iload dX12_vat_63 rfl ?_
      refine pr_iload_n dX12_vat_65 rfl ?_
      refine pr_icmp_eq (tgt := 88) dX12_vat_66 rfl rfl (by decide) (fun c_11 => ?_) (fun c_11 => ?_)
      · have h := pm_pos c_11 h
        refine pr_iconst dX12_vat_88 ?_
        refine pr_istore_n dX12_vat_89 (by decide) rfl ?_
        refine pr_iinc dX12_vat_90 rfl (by decide) rfl ?_
        refine pr_goto (tgt := 53) dX12_vat_93 (by decide) ?_
        refine pr_weak (L2 := [some (pv_r 0), some (pv_i y1), some (pv_i y2), some (pv_i 0), some (pv_i (z4 + 1))]) ⟨Or.inr rfl, Or.inr rfl, Or.inr rfl, Or.inr rfl, Or.inr rfl, trivial⟩ ?_
        exact hc _ (Option.some.inj h).symm
      · have h := pm_ng c_11 h
        refine pr_iload_n dX12_vat_69 rfl ?_
        refine pr_if_lt (tgt := 88) dX12_vat_70 rfl (by decide) (fun c_12 => ?_) (fun c_12 => ?_)
        · have h := pm_pos c_12 h
          refine pr_iconst dX12_vat_88 ?_
          refine pr_istore_n dX12_vat_89 (by decide) rfl ?_
          refine pr_iinc dX12_vat_90 rfl (by decide) rfl ?_
          refine pr_goto (tgt := 53) dX12_vat_93 (by decide) ?_
          refine pr_weak (L2 := [some (pv_r 0), some (pv_i y1), some (pv_i y2), some (pv_i 0), some (pv_i (z4 + 1))]) ⟨Or.inr rfl, Or.inr rfl, Or.inr rfl, Or.inr rfl, Or.inr rfl, trivial⟩ ?_
          exact hc _ (Option.some.inj h).symm
        · have h := pm_ng c_12 h
          refine pr_aload_n dX12_vat_73 rfl ?_
          refine pr_getR dX12_vat_74 lk_X12_49 lm_0 rfl ?_
          refine pr_iload dX12_vat_77 rfl ?_
          obtain ⟨g_13, h⟩ := pm_gs h
          refine pr_iald dX12_vat_79 lm_14 rfl g_13 ?_
          refine pr_iload_n dX12_vat_80 rfl ?_
          refine pr_icmp_ne (tgt := 88) dX12_vat_81 rfl rfl (by decide) (fun c_14 => ?_) (fun c_14 => ?_)
          · have h := pm_ng c_14 h
            refine pr_iconst dX12_vat_88 ?_
            refine pr_istore_n dX12_vat_89 (by decide) rfl ?_
            refine pr_iinc dX12_vat_90 rfl (by decide) rfl ?_
            refine pr_goto (tgt := 53) dX12_vat_93 (by decide) ?_
            refine pr_weak (L2 := [some (pv_r 0), some (pv_i y1), some (pv_i y2), some (pv_i 0), some (pv_i (z4 + 1))]) ⟨Or.inr rfl, Or.inr rfl, Or.inr rfl, Or.inr rfl, Or.inr rfl, trivial⟩ ?_
            exact hc _ (Option.some.inj h).symm
          · have h := pm_pos c_14 h
            refine pr_iconst dX12_vat_84 ?_
            refine pr_goto (tgt := 89) dX12_vat_85 (by decide) ?_
            refine pr_istore_n dX12_vat_89 (by decide) rfl ?_
            refine pr_iinc dX12_vat_90 rfl (by decide) rfl ?_
            refine pr_goto (tgt := 53) dX12_vat_93 (by decide) ?_
            refine pr_weak (L2 := [some (pv_r 0), some (pv_i y1), some (pv_i y2), some (pv_i 1), some (pv_i (z4 + 1))]) ⟨Or.inr rfl, Or.inr rfl, Or.inr rfl, Or.inr rfl, Or.inr rfl, trivial⟩ ?_
            exact hc _ (Option.some.inj h).symm
def jnX12_vat_49 (w1 : Int) (w2 : Int) (u0 : Int) (σ : pm_M) : Option (Int × pm_M) :=
  (pm_it (fun a => bdX12_vat_53 w1 w2 σ a.1 a.2) pm_fuel (u0, 0)).bind fun v15 => if (wr v15.1) = 0 then (pm_g (0 ≤ (wr w1) ∧ (wr w1) < 3) (some (1, (pm_up σ 14 (Int.toNat (wr w1)) w2)))) else ((fX12_refuse (-3) σ).bind fun q19 => some (q19.1, q19.2))
set_option maxHeartbeats 4000000 in
set_option maxRecDepth 100000 in
theorem tjX12_vat_49 {lay0 : List pm_S} {w1 : Int} {w2 : Int} {u0 : Int} {σ : pm_M} {ρ : Int × pm_M} (h : jnX12_vat_49 w1 w2 u0 σ = some ρ) : pm_J mX12_vat 1 21 lay0 (some (pv_i ρ.1)) LAYM ρ.2 49 [some (pv_r 0), some (pv_i w1), some (pv_i w2), none, none] [pv_i u0] LAYM σ := by
  unfold jnX12_vat_49 at h
  refine pr_istore_n dX12_vat_49 (by decide) rfl ?_
  refine pr_iconst dX12_vat_50 ?_
  refine pr_istore dX12_vat_51 (by decide) rfl ?_
  obtain ⟨v15, e16, h⟩ := pm_bs h
  refine pr_weak (L2 := [some (pv_r 0), some (pv_i w1), some (pv_i w2), some (pv_i u0), some (pv_i 0)]) ⟨Or.inr rfl, Or.inr rfl, Or.inr rfl, Or.inr rfl, Or.inr rfl, trivial⟩ ?_
  refine pm_it_J (P := fun a => pm_J mX12_vat 1 21 lay0 (some (pv_i ρ.1)) LAYM ρ.2 53 [some (pv_r 0), some (pv_i w1), some (pv_i w2), some (pv_i a.1), some (pv_i a.2)] [] LAYM σ) (Rx := fun a => pm_J mX12_vat 1 21 lay0 (some (pv_i ρ.1)) LAYM ρ.2 96 [some (pv_r 0), some (pv_i w1), some (pv_i w2), some (pv_i a.1), none] [] LAYM σ) (tbX12_vat_53 w1 w2 σ) _ _ _ e16 ?_
  show pm_J mX12_vat 1 21 lay0 (some (pv_i ρ.1)) LAYM ρ.2 96 [some (pv_r 0), some (pv_i w1), some (pv_i w2), some (pv_i v15.1), none] [] LAYM σ
  refine pr_iload_n dX12_vat_96 rfl ?_
  refine pr_if_eq (tgt := 107) dX12_vat_97 rfl (by decide) (fun c_17 => ?_) (fun c_17 => ?_)
  · have h := pm_pos c_17 h
    refine pr_aload_n dX12_vat_107 rfl ?_
    refine pr_getR dX12_vat_108 lk_X12_49 lm_0 rfl ?_
    refine pr_iload_n dX12_vat_111 rfl ?_
    refine pr_iload_n dX12_vat_112 rfl ?_
    obtain ⟨g_18, h⟩ := pm_gs h
    refine pr_iast dX12_vat_113 lm_14 rfl g_18 ?_
    refine pr_iconst dX12_vat_114 ?_
    have h := Option.some.inj h
    subst h
    exact pr_iret dX12_vat_115 rfl
  · have h := pm_ng c_17 h
    refine pr_aload_n dX12_vat_100 rfl ?_
    refine pr_bipush dX12_vat_101 (by decide) ?_
    obtain ⟨q19, e20, h⟩ := pm_bs h
    refine pr_callV (As := [pv_i (-3)]) (S := []) (t := 0) dX12_vat_103 mk_X12_103 lm_0 (ci := 12) (q := (RX12, TX12, 36)) rfl rfl rfl rfl (by decide) (by decide) (by decide) (Or.inl rfl) (tmX12_refuse e20) ?_
    have h := Option.some.inj h
    subst h
    exact pr_iret dX12_vat_106 rfl
def jnX12_vat_30 (w1 : Int) (w2 : Int) (σ : pm_M) : Option (Int × pm_M) :=
  pm_g (0 ≤ (wr (105 + (2 * w1))) ∧ (wr (105 + (2 * w1))) < 755) (if (wr (σ 25 (Int.toNat (wr (105 + (2 * w1)))))) ≤ 0 then (jnX12_vat_49 w1 w2 0 σ) else (jnX12_vat_49 w1 w2 1 σ))
set_option maxHeartbeats 4000000 in
set_option maxRecDepth 100000 in
theorem tjX12_vat_30 {lay0 : List pm_S} {w1 : Int} {w2 : Int} {σ : pm_M} {ρ : Int × pm_M} (h : jnX12_vat_30 w1 w2 σ = some ρ) : pm_J mX12_vat 1 21 lay0 (some (pv_i ρ.1)) LAYM ρ.2 30 [some (pv_r 0), some (pv_i w1), some (pv_i w2), none, none] [] LAYM σ := by
  unfold jnX12_vat_30 at h
  refine pr_aload_n dX12_vat_30 rfl ?_
  refine pr_getR dX12_vat_31 lk_X12_86 lm_0 rfl ?_
  refine pr_bipush dX12_vat_34 (by decide) ?_
  refine pr_iconst dX12_vat_36 ?_
  refine pr_iload_n dX12_vat_37 rfl ?_
  refine pr_imul dX12_vat_38 ?_
  refine pr_iadd dX12_vat_39 ?_
  obtain ⟨g_7, h⟩ := pm_gs h
  refine pr_iald dX12_vat_40 lm_25 rfl g_7 ?_
  refine pr_if_le (tgt := 48) dX12_vat_41 rfl (by decide) (fun c_8 => ?_) (fun c_8 => ?_)
  · have h := pm_pos c_8 h
    refine pr_iconst dX12_vat_48 ?_
    refine pr_weak (L2 := [some (pv_r 0), some (pv_i w1), some (pv_i w2), none, none]) ⟨Or.inr rfl, Or.inr rfl, Or.inr rfl, Or.inl rfl, Or.inl rfl, trivial⟩ ?_
    exact tjX12_vat_49 h
  · have h := pm_ng c_8 h
    refine pr_iconst dX12_vat_44 ?_
    refine pr_goto (tgt := 49) dX12_vat_45 (by decide) ?_
    refine pr_weak (L2 := [some (pv_r 0), some (pv_i w1), some (pv_i w2), none, none]) ⟨Or.inr rfl, Or.inr rfl, Or.inr rfl, Or.inl rfl, Or.inl rfl, trivial⟩ ?_
    exact tjX12_vat_49 h
def fX12_vat (x1 : Int) (x2 : Int) (σ : pm_M) : Option (Int × pm_M) :=
  (fX12_isIn x1 3).bind fun q1 => if (wr q1) = 0 then ((fX12_refuse (-1) σ).bind fun q4 => some (q4.1, q4.2)) else (if (wr x2) = (-1) then (jnX12_vat_30 x1 x2 σ) else ((fX12_isIn x2 (σ 0 16)).bind fun q21 => if (wr q21) = 0 then ((fX12_refuse (-1) σ).bind fun q24 => some (q24.1, q24.2)) else (jnX12_vat_30 x1 x2 σ)))
set_option maxHeartbeats 4000000 in
set_option maxRecDepth 100000 in
theorem tmX12_vat {x1 : Int} {x2 : Int} {σ : pm_M} {ρ : Int × pm_M} (h : fX12_vat x1 x2 σ = some ρ) : pm_C mX12_vat 1 21 [pv_r 0, pv_i x1, pv_i x2] LAYM σ (some (pv_i ρ.1)) LAYM ρ.2 := by
  refine pm_C.of rfl rfl (by decide) ?_
  show pm_J mX12_vat 1 21 LAYM (some (pv_i ρ.1)) LAYM ρ.2 0 [some (pv_r 0), some (pv_i x1), some (pv_i x2), none, none] [] LAYM σ
  unfold fX12_vat at h
  refine pr_iload_n dX12_vat_0 rfl ?_
  refine pr_iconst dX12_vat_1 ?_
  obtain ⟨q1, e2, h⟩ := pm_bs h
  refine pr_callS (av := [pv_i x1, pv_i 3]) (S := []) dX12_vat_2 mk_X12_95 rfl rfl (by decide) (by decide) (by decide) (Or.inl rfl) (tmX12_isIn e2) ?_
  refine pr_if_eq (tgt := 24) dX12_vat_5 rfl (by decide) (fun c_3 => ?_) (fun c_3 => ?_)
  · have h := pm_pos c_3 h
    refine pr_aload_n dX12_vat_24 rfl ?_
    refine pr_iconst dX12_vat_25 ?_
    obtain ⟨q4, e5, h⟩ := pm_bs h
    refine pr_callV (As := [pv_i (-1)]) (S := []) (t := 0) dX12_vat_26 mk_X12_103 lm_0 (ci := 12) (q := (RX12, TX12, 36)) rfl rfl rfl rfl (by decide) (by decide) (by decide) (Or.inl rfl) (tmX12_refuse e5) ?_
    have h := Option.some.inj h
    subst h
    exact pr_iret dX12_vat_29 rfl
  · have h := pm_ng c_3 h
    refine pr_iload_n dX12_vat_8 rfl ?_
    refine pr_iconst dX12_vat_9 ?_
    refine pr_icmp_eq (tgt := 30) dX12_vat_10 rfl (wr_eq (by decide) (by decide)) (by decide) (fun c_6 => ?_) (fun c_6 => ?_)
    · have h := pm_pos c_6 h
      refine pr_weak (L2 := [some (pv_r 0), some (pv_i x1), some (pv_i x2), none, none]) ⟨Or.inr rfl, Or.inr rfl, Or.inr rfl, Or.inl rfl, Or.inl rfl, trivial⟩ ?_
      exact tjX12_vat_30 h
    · have h := pm_ng c_6 h
      refine pr_iload_n dX12_vat_13 rfl ?_
      refine pr_aload_n dX12_vat_14 rfl ?_
      refine pr_getI dX12_vat_15 lk_X12_129 lm_0 rfl ?_
      obtain ⟨q21, e22, h⟩ := pm_bs h
      refine pr_callS (av := [pv_i x2, pv_i (σ 0 16)]) (S := []) dX12_vat_18 mk_X12_95 rfl rfl (by decide) (by decide) (by decide) (Or.inl rfl) (tmX12_isIn e22) ?_
      refine pr_if_ne (tgt := 30) dX12_vat_21 rfl (by decide) (fun c_23 => ?_) (fun c_23 => ?_)
      · have h := pm_ng c_23 h
        refine pr_weak (L2 := [some (pv_r 0), some (pv_i x1), some (pv_i x2), none, none]) ⟨Or.inr rfl, Or.inr rfl, Or.inr rfl, Or.inl rfl, Or.inl rfl, trivial⟩ ?_
        exact tjX12_vat_30 h
      · have h := pm_pos c_23 h
        refine pr_aload_n dX12_vat_24 rfl ?_
        refine pr_iconst dX12_vat_25 ?_
        obtain ⟨q24, e25, h⟩ := pm_bs h
        refine pr_callV (As := [pv_i (-1)]) (S := []) (t := 0) dX12_vat_26 mk_X12_103 lm_0 (ci := 12) (q := (RX12, TX12, 36)) rfl rfl rfl rfl (by decide) (by decide) (by decide) (Or.inl rfl) (tmX12_refuse e25) ?_
        have h := Option.some.inj h
        subst h
        exact pr_iret dX12_vat_29 rfl
def fX12_furnish (x1 : Int) (x2 : Int) (σ : pm_M) : Option (Int × pm_M) :=
  (fX12_isIn x1 3).bind fun q1 => if (wr q1) = 0 then ((fX12_refuse (-1) σ).bind fun q4 => some (q4.1, q4.2)) else ((fX12_isKind x2 σ).bind fun q6 => if (wr q6) = 0 then ((fX12_refuse (-1) σ).bind fun q11 => some (q11.1, q11.2)) else (pm_g (0 ≤ (wr x1) ∧ (wr x1) < 3) (pm_g (0 ≤ (wr x1) ∧ (wr x1) < 3) (some ((σ 15 (Int.toNat (wr x1))), (pm_up σ 15 (Int.toNat (wr x1)) x2))))))
set_option maxHeartbeats 4000000 in
set_option maxRecDepth 100000 in
theorem tmX12_furnish {x1 : Int} {x2 : Int} {σ : pm_M} {ρ : Int × pm_M} (h : fX12_furnish x1 x2 σ = some ρ) : pm_C mX12_furnish 2 42 [pv_r 0, pv_i x1, pv_i x2] LAYM σ (some (pv_i ρ.1)) LAYM ρ.2 := by
  refine pm_C.of rfl rfl (by decide) ?_
  show pm_J mX12_furnish 2 42 LAYM (some (pv_i ρ.1)) LAYM ρ.2 0 [some (pv_r 0), some (pv_i x1), some (pv_i x2), none] [] LAYM σ
  unfold fX12_furnish at h
  refine pr_iload_n dX12_furnish_0 rfl ?_
  refine pr_iconst dX12_furnish_1 ?_
  obtain ⟨q1, e2, h⟩ := pm_bs h
  refine pr_callS (av := [pv_i x1, pv_i 3]) (S := []) dX12_furnish_2 mk_X12_95 rfl rfl (by decide) (by decide) (by decide) (Or.inl rfl) (tmX12_isIn e2) ?_
  refine pr_if_eq (tgt := 16) dX12_furnish_5 rfl (by decide) (fun c_3 => ?_) (fun c_3 => ?_)
  · have h := pm_pos c_3 h
    refine pr_aload_n dX12_furnish_16 rfl ?_
    refine pr_iconst dX12_furnish_17 ?_
    obtain ⟨q4, e5, h⟩ := pm_bs h
    refine pr_callV (As := [pv_i (-1)]) (S := []) (t := 0) dX12_furnish_18 mk_X12_103 lm_0 (ci := 12) (q := (RX12, TX12, 36)) rfl rfl rfl rfl (by decide) (by decide) (by decide) (Or.inl rfl) (tmX12_refuse e5) ?_
    have h := Option.some.inj h
    subst h
    exact pr_iret dX12_furnish_21 rfl
  · have h := pm_ng c_3 h
    refine pr_aload_n dX12_furnish_8 rfl ?_
    refine pr_iload_n dX12_furnish_9 rfl ?_
    obtain ⟨q6, e7, h⟩ := pm_bs h
    refine pr_callV (As := [pv_i x2]) (S := []) (t := 0) dX12_furnish_10 mk_X12_111 lm_0 (ci := 12) (q := (RX12, TX12, 36)) rfl rfl rfl rfl (by decide) (by decide) (by decide) (Or.inl rfl) (tmX12_isKind e7) ?_
    refine pr_if_ne (tgt := 22) dX12_furnish_13 rfl (by decide) (fun c_8 => ?_) (fun c_8 => ?_)
    · have h := pm_ng c_8 h
      refine pr_aload_n dX12_furnish_22 rfl ?_
      refine pr_getR dX12_furnish_23 lk_X12_52 lm_0 rfl ?_
      refine pr_iload_n dX12_furnish_26 rfl ?_
      obtain ⟨g_9, h⟩ := pm_gs h
      refine pr_iald dX12_furnish_27 lm_15 rfl g_9 ?_
      refine pr_istore_n dX12_furnish_28 (by decide) rfl ?_
      refine pr_aload_n dX12_furnish_29 rfl ?_
      refine pr_getR dX12_furnish_30 lk_X12_52 lm_0 rfl ?_
      refine pr_iload_n dX12_furnish_33 rfl ?_
      refine pr_iload_n dX12_furnish_34 rfl ?_
      obtain ⟨g_10, h⟩ := pm_gs h
      refine pr_iast dX12_furnish_35 lm_15 rfl g_10 ?_
      refine pr_iload_n dX12_furnish_36 rfl ?_
      have h := Option.some.inj h
      subst h
      exact pr_iret dX12_furnish_37 rfl
    · have h := pm_pos c_8 h
      refine pr_aload_n dX12_furnish_16 rfl ?_
      refine pr_iconst dX12_furnish_17 ?_
      obtain ⟨q11, e12, h⟩ := pm_bs h
      refine pr_callV (As := [pv_i (-1)]) (S := []) (t := 0) dX12_furnish_18 mk_X12_103 lm_0 (ci := 12) (q := (RX12, TX12, 36)) rfl rfl rfl rfl (by decide) (by decide) (by decide) (Or.inl rfl) (tmX12_refuse e12) ?_
      have h := Option.some.inj h
      subst h
      exact pr_iret dX12_furnish_21 rfl
def fX12_loft (x1 : Int) (σ : pm_M) : Option (Int × pm_M) :=
  (fX12_wrong x1 0 40).bind fun q1 => if (wr q1) = 0 then (some ((σ 0 20), (pm_up σ 0 20 x1))) else ((fX12_refuse q1 σ).bind fun q4 => some (q4.1, q4.2))
set_option maxHeartbeats 4000000 in
set_option maxRecDepth 100000 in
theorem tmX12_loft {x1 : Int} {σ : pm_M} {ρ : Int × pm_M} (h : fX12_loft x1 σ = some ρ) : pm_C mX12_loft 1 22 [pv_r 0, pv_i x1] LAYM σ (some (pv_i ρ.1)) LAYM ρ.2 := by
  refine pm_C.of rfl rfl (by decide) ?_
  show pm_J mX12_loft 1 22 LAYM (some (pv_i ρ.1)) LAYM ρ.2 0 [some (pv_r 0), some (pv_i x1), none, none] [] LAYM σ
  unfold fX12_loft at h
  refine pr_iload_n dX12_loft_0 rfl ?_
  refine pr_iconst dX12_loft_1 ?_
  refine pr_bipush dX12_loft_2 (by decide) ?_
  obtain ⟨q1, e2, h⟩ := pm_bs h
  refine pr_callS (av := [pv_i x1, pv_i 0, pv_i 40]) (S := []) dX12_loft_4 mk_X12_99 rfl rfl (by decide) (by decide) (by decide) (Or.inl rfl) (tmX12_wrong e2) ?_
  refine pr_istore_n dX12_loft_7 (by decide) rfl ?_
  refine pr_iload_n dX12_loft_8 rfl ?_
  refine pr_if_eq (tgt := 18) dX12_loft_9 rfl (by decide) (fun c_3 => ?_) (fun c_3 => ?_)
  · have h := pm_pos c_3 h
    refine pr_aload_n dX12_loft_18 rfl ?_
    refine pr_getI dX12_loft_19 lk_X12_55 lm_0 rfl ?_
    refine pr_istore_n dX12_loft_22 (by decide) rfl ?_
    refine pr_aload_n dX12_loft_23 rfl ?_
    refine pr_iload_n dX12_loft_24 rfl ?_
    refine pr_putI dX12_loft_25 lp_X12_55 lm_0 rfl ?_
    refine pr_iload_n dX12_loft_28 rfl ?_
    have h := Option.some.inj h
    subst h
    exact pr_iret dX12_loft_29 rfl
  · have h := pm_ng c_3 h
    refine pr_aload_n dX12_loft_12 rfl ?_
    refine pr_iload_n dX12_loft_13 rfl ?_
    obtain ⟨q4, e5, h⟩ := pm_bs h
    refine pr_callV (As := [pv_i q1]) (S := []) (t := 0) dX12_loft_14 mk_X12_103 lm_0 (ci := 12) (q := (RX12, TX12, 36)) rfl rfl rfl rfl (by decide) (by decide) (by decide) (Or.inl rfl) (tmX12_refuse e5) ?_
    have h := Option.some.inj h
    subst h
    exact pr_iret dX12_loft_17 rfl
def fX12_hides (x1 : Int) (σ : pm_M) : Option (Int × pm_M) :=
  (fX12_wrong x1 1 (1000 - (σ 0 19))).bind fun q1 => if (wr q1) = 0 then (some (((pm_up σ 0 19 ((σ 0 19) + x1)) 0 19), (pm_up σ 0 19 ((σ 0 19) + x1)))) else ((fX12_refuse q1 σ).bind fun q4 => some (q4.1, q4.2))
set_option maxHeartbeats 4000000 in
set_option maxRecDepth 100000 in
theorem tmX12_hides {x1 : Int} {σ : pm_M} {ρ : Int × pm_M} (h : fX12_hides x1 σ = some ρ) : pm_C mX12_hides 1 22 [pv_r 0, pv_i x1] LAYM σ (some (pv_i ρ.1)) LAYM ρ.2 := by
  refine pm_C.of rfl rfl (by decide) ?_
  show pm_J mX12_hides 1 22 LAYM (some (pv_i ρ.1)) LAYM ρ.2 0 [some (pv_r 0), some (pv_i x1), none] [] LAYM σ
  unfold fX12_hides at h
  refine pr_iload_n dX12_hides_0 rfl ?_
  refine pr_iconst dX12_hides_1 ?_
  refine pr_sipush dX12_hides_2 (by decide) ?_
  refine pr_aload_n dX12_hides_5 rfl ?_
  refine pr_getI dX12_hides_6 lk_X12_135 lm_0 rfl ?_
  refine pr_isub dX12_hides_9 ?_
  obtain ⟨q1, e2, h⟩ := pm_bs h
  refine pr_callS (av := [pv_i x1, pv_i 1, pv_i (1000 - (σ 0 19))]) (S := []) dX12_hides_10 mk_X12_99 rfl rfl (by decide) (by decide) (by decide) (Or.inl rfl) (tmX12_wrong e2) ?_
  refine pr_istore_n dX12_hides_13 (by decide) rfl ?_
  refine pr_iload_n dX12_hides_14 rfl ?_
  refine pr_if_eq (tgt := 24) dX12_hides_15 rfl (by decide) (fun c_3 => ?_) (fun c_3 => ?_)
  · have h := pm_pos c_3 h
    refine pr_aload_n dX12_hides_24 rfl ?_
    refine pr_dup dX12_hides_25 rfl ?_
    refine pr_getI dX12_hides_26 lk_X12_135 lm_0 rfl ?_
    refine pr_iload_n dX12_hides_29 rfl ?_
    refine pr_iadd dX12_hides_30 ?_
    refine pr_putI dX12_hides_31 lp_X12_135 lm_0 rfl ?_
    refine pr_aload_n dX12_hides_34 rfl ?_
    refine pr_getI dX12_hides_35 lk_X12_135 lm_0 rfl ?_
    have h := Option.some.inj h
    subst h
    exact pr_iret dX12_hides_38 rfl
  · have h := pm_ng c_3 h
    refine pr_aload_n dX12_hides_18 rfl ?_
    refine pr_iload_n dX12_hides_19 rfl ?_
    obtain ⟨q4, e5, h⟩ := pm_bs h
    refine pr_callV (As := [pv_i q1]) (S := []) (t := 0) dX12_hides_20 mk_X12_103 lm_0 (ci := 12) (q := (RX12, TX12, 36)) rfl rfl rfl rfl (by decide) (by decide) (by decide) (Or.inl rfl) (tmX12_refuse e5) ?_
    have h := Option.some.inj h
    subst h
    exact pr_iret dX12_hides_23 rfl
def fX12_post (x1 : Int) (x2 : Int) (σ : pm_M) : Option (Int) :=
  pm_g (0 ≤ (wr ((111 + (8 * x1)) + x2)) ∧ (wr ((111 + (8 * x1)) + x2)) < 755) (some (σ 25 (Int.toNat (wr ((111 + (8 * x1)) + x2)))))
set_option maxHeartbeats 4000000 in
set_option maxRecDepth 100000 in
theorem tmX12_post {x1 : Int} {x2 : Int} {σ : pm_M} {ρ : Int} (h : fX12_post x1 x2 σ = some ρ) : pm_C mX12_post 0 0 [pv_r 0, pv_i x1, pv_i x2] LAYM σ (some (pv_i ρ)) LAYM σ := by
  refine pm_C.of rfl rfl (by decide) ?_
  show pm_J mX12_post 0 0 LAYM (some (pv_i ρ)) LAYM σ 0 [some (pv_r 0), some (pv_i x1), some (pv_i x2)] [] LAYM σ
  unfold fX12_post at h
  refine pr_aload_n dX12_post_0 rfl ?_
  refine pr_getR dX12_post_1 lk_X12_86 lm_0 rfl ?_
  refine pr_bipush dX12_post_4 (by decide) ?_
  refine pr_bipush dX12_post_6 (by decide) ?_
  refine pr_iload_n dX12_post_8 rfl ?_
  refine pr_imul dX12_post_9 ?_
  refine pr_iadd dX12_post_10 ?_
  refine pr_iload_n dX12_post_11 rfl ?_
  refine pr_iadd dX12_post_12 ?_
  obtain ⟨g_1, h⟩ := pm_gs h
  refine pr_iald dX12_post_13 lm_25 rfl g_1 ?_
  have h := Option.some.inj h
  subst h
  exact pr_iret dX12_post_14 rfl
def fX12_put (x1 : Int) (x2 : Int) (x3 : Int) (σ : pm_M) : Option (pm_M) :=
  pm_g (0 ≤ (wr ((111 + (8 * x1)) + x2)) ∧ (wr ((111 + (8 * x1)) + x2)) < 755) (some (pm_up σ 25 (Int.toNat (wr ((111 + (8 * x1)) + x2))) x3))
set_option maxHeartbeats 4000000 in
set_option maxRecDepth 100000 in
theorem tmX12_put {x1 : Int} {x2 : Int} {x3 : Int} {σ : pm_M} {ρ : pm_M} (h : fX12_put x1 x2 x3 σ = some ρ) : pm_C mX12_put 0 0 [pv_r 0, pv_i x1, pv_i x2, pv_i x3] LAYM σ none LAYM ρ := by
  refine pm_C.of rfl rfl (by decide) ?_
  show pm_J mX12_put 0 0 LAYM none LAYM ρ 0 [some (pv_r 0), some (pv_i x1), some (pv_i x2), some (pv_i x3)] [] LAYM σ
  unfold fX12_put at h
  refine pr_aload_n dX12_put_0 rfl ?_
  refine pr_getR dX12_put_1 lk_X12_86 lm_0 rfl ?_
  refine pr_bipush dX12_put_4 (by decide) ?_
  refine pr_bipush dX12_put_6 (by decide) ?_
  refine pr_iload_n dX12_put_8 rfl ?_
  refine pr_imul dX12_put_9 ?_
  refine pr_iadd dX12_put_10 ?_
  refine pr_iload_n dX12_put_11 rfl ?_
  refine pr_iadd dX12_put_12 ?_
  refine pr_iload_n dX12_put_13 rfl ?_
  obtain ⟨g_1, h⟩ := pm_gs h
  refine pr_iast dX12_put_14 lm_25 rfl g_1 ?_
  have h := Option.some.inj h
  subst h
  exact pr_vret dX12_put_15 rfl
def fX12_sizes (x1 : Int) (σ : pm_M) : Option (Int × pm_M) :=
  (fX12_post x1 4 (pm_up σ 0 19 ((σ 0 19) - 1))).bind fun q1 => (fX12_post x1 3 (pm_up σ 0 19 ((σ 0 19) - 1))).bind fun q3 => (fJ9_max_7cf53 0 (58 - (Int.tdiv (wr (q1 - q3)) 24))).bind fun q5 => (fX12_put x1 0 3 (pm_up σ 0 19 ((σ 0 19) - 1))).bind fun q7 => (fX12_put x1 7 q5 q7).bind fun q9 => (fX12_post x1 2 q9).bind fun q11 => (fX12_post x1 1 q9).bind fun q13 => pm_g (0 ≤ (wr q13) ∧ (wr q13) < 4) (pm_g (0 ≤ (wr ((9 * q11) + (q9 11 (Int.toNat (wr q13))))) ∧ (wr ((9 * q11) + (q9 11 (Int.toNat (wr q13))))) < 81) (pm_g (0 ≤ (wr ((9 * q11) + (q9 11 (Int.toNat (wr q13))))) ∧ (wr ((9 * q11) + (q9 11 (Int.toNat (wr q13))))) < 81) (some (q5, (pm_up q9 8 (Int.toNat (wr ((9 * q11) + (q9 11 (Int.toNat (wr q13)))))) ((q9 8 (Int.toNat (wr ((9 * q11) + (q9 11 (Int.toNat (wr q13))))))) + q5))))))
set_option maxHeartbeats 4000000 in
set_option maxRecDepth 100000 in
theorem tmX12_sizes {x1 : Int} {σ : pm_M} {ρ : Int × pm_M} (h : fX12_sizes x1 σ = some ρ) : pm_C mX12_sizes 1 23 [pv_r 0, pv_i x1] LAYM σ (some (pv_i ρ.1)) LAYM ρ.2 := by
  refine pm_C.of rfl rfl (by decide) ?_
  show pm_J mX12_sizes 1 23 LAYM (some (pv_i ρ.1)) LAYM ρ.2 0 [some (pv_r 0), some (pv_i x1), none, none] [] LAYM σ
  unfold fX12_sizes at h
  refine pr_aload_n dX12_sizes_0 rfl ?_
  refine pr_dup dX12_sizes_1 rfl ?_
  refine pr_getI dX12_sizes_2 lk_X12_135 lm_0 rfl ?_
  refine pr_iconst dX12_sizes_5 ?_
  refine pr_isub dX12_sizes_6 ?_
  refine pr_putI dX12_sizes_7 lp_X12_135 lm_0 rfl ?_
  refine pr_aload_n dX12_sizes_10 rfl ?_
  refine pr_iload_n dX12_sizes_11 rfl ?_
  refine pr_iconst dX12_sizes_12 ?_
  obtain ⟨q1, e2, h⟩ := pm_bs h
  refine pr_callV (As := [pv_i x1, pv_i 4]) (S := []) (t := 0) dX12_sizes_13 mk_X12_138 lm_0 (ci := 12) (q := (RX12, TX12, 36)) rfl rfl rfl rfl (by decide) (by decide) (by decide) (Or.inl rfl) (tmX12_post e2) ?_
  refine pr_aload_n dX12_sizes_16 rfl ?_
  refine pr_iload_n dX12_sizes_17 rfl ?_
  refine pr_iconst dX12_sizes_18 ?_
  obtain ⟨q3, e4, h⟩ := pm_bs h
  refine pr_callV (As := [pv_i x1, pv_i 3]) (S := [pv_i q1]) (t := 0) dX12_sizes_19 mk_X12_138 lm_0 (ci := 12) (q := (RX12, TX12, 36)) rfl rfl rfl rfl (by decide) (by decide) (by decide) (Or.inl rfl) (tmX12_post e4) ?_
  refine pr_isub dX12_sizes_22 ?_
  refine pr_bipush dX12_sizes_23 (by decide) ?_
  refine pr_idiv dX12_sizes_25 rfl (wr_eq (by decide) (by decide)) (by decide) ?_
  refine pr_istore_n dX12_sizes_26 (by decide) rfl ?_
  refine pr_iconst dX12_sizes_27 ?_
  refine pr_bipush dX12_sizes_28 (by decide) ?_
  refine pr_iload_n dX12_sizes_30 rfl ?_
  refine pr_isub dX12_sizes_31 ?_
  obtain ⟨q5, e6, h⟩ := pm_bs h
  refine pr_callS (av := [pv_i 0, pv_i (58 - (Int.tdiv (wr (q1 - q3)) 24))]) (S := []) dX12_sizes_32 mk_X12_141 rfl rfl (by decide) (by decide) (by decide) (Or.inl rfl) (tmJ9_max_7cf53 e6) ?_
  refine pr_istore_n dX12_sizes_35 (by decide) rfl ?_
  refine pr_aload_n dX12_sizes_36 rfl ?_
  refine pr_iload_n dX12_sizes_37 rfl ?_
  refine pr_iconst dX12_sizes_38 ?_
  refine pr_iconst dX12_sizes_39 ?_
  obtain ⟨q7, e8, h⟩ := pm_bs h
  refine pr_callV (As := [pv_i x1, pv_i 0, pv_i 3]) (S := []) (t := 0) dX12_sizes_40 mk_X12_144 lm_0 (ci := 12) (q := (RX12, TX12, 36)) rfl rfl rfl rfl (by decide) (by decide) (by decide) (Or.inl rfl) (tmX12_put e8) ?_
  refine pr_aload_n dX12_sizes_43 rfl ?_
  refine pr_iload_n dX12_sizes_44 rfl ?_
  refine pr_bipush dX12_sizes_45 (by decide) ?_
  refine pr_iload_n dX12_sizes_47 rfl ?_
  obtain ⟨q9, e10, h⟩ := pm_bs h
  refine pr_callV (As := [pv_i x1, pv_i 7, pv_i q5]) (S := []) (t := 0) dX12_sizes_48 mk_X12_144 lm_0 (ci := 12) (q := (RX12, TX12, 36)) rfl rfl rfl rfl (by decide) (by decide) (by decide) (Or.inl rfl) (tmX12_put e10) ?_
  refine pr_aload_n dX12_sizes_51 rfl ?_
  refine pr_getR dX12_sizes_52 lk_X12_31 lm_0 rfl ?_
  refine pr_bipush dX12_sizes_55 (by decide) ?_
  refine pr_aload_n dX12_sizes_57 rfl ?_
  refine pr_iload_n dX12_sizes_58 rfl ?_
  refine pr_iconst dX12_sizes_59 ?_
  obtain ⟨q11, e12, h⟩ := pm_bs h
  refine pr_callV (As := [pv_i x1, pv_i 2]) (S := [pv_i 9, pv_r 8]) (t := 0) dX12_sizes_60 mk_X12_138 lm_0 (ci := 12) (q := (RX12, TX12, 36)) rfl rfl rfl rfl (by decide) (by decide) (by decide) (Or.inl rfl) (tmX12_post e12) ?_
  refine pr_imul dX12_sizes_63 ?_
  refine pr_aload_n dX12_sizes_64 rfl ?_
  refine pr_getR dX12_sizes_65 lk_X12_40 lm_0 rfl ?_
  refine pr_aload_n dX12_sizes_68 rfl ?_
  refine pr_iload_n dX12_sizes_69 rfl ?_
  refine pr_iconst dX12_sizes_70 ?_
  obtain ⟨q13, e14, h⟩ := pm_bs h
  refine pr_callV (As := [pv_i x1, pv_i 1]) (S := [pv_r 11, pv_i (9 * q11), pv_r 8]) (t := 0) dX12_sizes_71 mk_X12_138 lm_0 (ci := 12) (q := (RX12, TX12, 36)) rfl rfl rfl rfl (by decide) (by decide) (by decide) (Or.inl rfl) (tmX12_post e14) ?_
  obtain ⟨g_15, h⟩ := pm_gs h
  refine pr_iald dX12_sizes_74 lm_11 rfl g_15 ?_
  refine pr_iadd dX12_sizes_75 ?_
  refine pr_dup2 dX12_sizes_76 rfl rfl ?_
  obtain ⟨g_16, h⟩ := pm_gs h
  refine pr_iald dX12_sizes_77 lm_8 rfl g_16 ?_
  refine pr_iload_n dX12_sizes_78 rfl ?_
  refine pr_iadd dX12_sizes_79 ?_
  obtain ⟨g_17, h⟩ := pm_gs h
  refine pr_iast dX12_sizes_80 lm_8 rfl g_17 ?_
  refine pr_iload_n dX12_sizes_81 rfl ?_
  have h := Option.some.inj h
  subst h
  exact pr_iret dX12_sizes_82 rfl
def fX12_size (x1 : Int) (σ : pm_M) : Option (Int × pm_M) :=
  (fX12_isIn x1 (σ 25 (Int.toNat 752))).bind fun q1 => if (wr q1) = 0 then ((fX12_refuse (-1) σ).bind fun q14 => some (q14.1, q14.2)) else ((fX12_post x1 0 σ).bind fun q4 => if (wr q4) = 2 then (if (wr (σ 0 19)) = 0 then ((fX12_refuse (-3) σ).bind fun q12 => some (q12.1, q12.2)) else ((fX12_sizes x1 σ).bind fun q10 => some (q10.1, q10.2))) else ((fX12_refuse (-3) σ).bind fun q7 => some (q7.1, q7.2)))
set_option maxHeartbeats 4000000 in
set_option maxRecDepth 100000 in
theorem tmX12_size {x1 : Int} {σ : pm_M} {ρ : Int × pm_M} (h : fX12_size x1 σ = some ρ) : pm_C mX12_size 2 46 [pv_r 0, pv_i x1] LAYM σ (some (pv_i ρ.1)) LAYM ρ.2 := by
  refine pm_C.of rfl rfl (by decide) ?_
  show pm_J mX12_size 2 46 LAYM (some (pv_i ρ.1)) LAYM ρ.2 0 [some (pv_r 0), some (pv_i x1)] [] LAYM σ
  unfold fX12_size at h
  refine pr_iload_n dX12_size_0 rfl ?_
  refine pr_aload_n dX12_size_1 rfl ?_
  refine pr_getR dX12_size_2 lk_X12_86 lm_0 rfl ?_
  refine pr_sipush dX12_size_5 (by decide) ?_
  refine pr_iald dX12_size_8 lm_25 (wr_eq (by decide) (by decide)) ⟨by decide, by decide⟩ ?_
  obtain ⟨q1, e2, h⟩ := pm_bs h
  refine pr_callS (av := [pv_i x1, pv_i (σ 25 (Int.toNat 752))]) (S := []) dX12_size_9 mk_X12_95 rfl rfl (by decide) (by decide) (by decide) (Or.inl rfl) (tmX12_isIn e2) ?_
  refine pr_if_ne (tgt := 21) dX12_size_12 rfl (by decide) (fun c_3 => ?_) (fun c_3 => ?_)
  · have h := pm_ng c_3 h
    refine pr_aload_n dX12_size_21 rfl ?_
    refine pr_iload_n dX12_size_22 rfl ?_
    refine pr_iconst dX12_size_23 ?_
    obtain ⟨q4, e5, h⟩ := pm_bs h
    refine pr_callV (As := [pv_i x1, pv_i 0]) (S := []) (t := 0) dX12_size_24 mk_X12_138 lm_0 (ci := 12) (q := (RX12, TX12, 36)) rfl rfl rfl rfl (by decide) (by decide) (by decide) (Or.inl rfl) (tmX12_post e5) ?_
    refine pr_iconst dX12_size_27 ?_
    refine pr_icmp_ne (tgt := 38) dX12_size_28 rfl (wr_eq (by decide) (by decide)) (by decide) (fun c_6 => ?_) (fun c_6 => ?_)
    · have h := pm_ng c_6 h
      refine pr_aload_n dX12_size_38 rfl ?_
      refine pr_bipush dX12_size_39 (by decide) ?_
      obtain ⟨q7, e8, h⟩ := pm_bs h
      refine pr_callV (As := [pv_i (-3)]) (S := []) (t := 0) dX12_size_41 mk_X12_103 lm_0 (ci := 12) (q := (RX12, TX12, 36)) rfl rfl rfl rfl (by decide) (by decide) (by decide) (Or.inl rfl) (tmX12_refuse e8) ?_
      refine pr_goto (tgt := 52) dX12_size_44 (by decide) ?_
      have h := Option.some.inj h
      subst h
      exact pr_iret dX12_size_52 rfl
    · have h := pm_pos c_6 h
      refine pr_aload_n dX12_size_31 rfl ?_
      refine pr_getI dX12_size_32 lk_X12_135 lm_0 rfl ?_
      refine pr_if_ne (tgt := 47) dX12_size_35 rfl (by decide) (fun c_9 => ?_) (fun c_9 => ?_)
      · have h := pm_ng c_9 h
        refine pr_aload_n dX12_size_47 rfl ?_
        refine pr_iload_n dX12_size_48 rfl ?_
        obtain ⟨q10, e11, h⟩ := pm_bs h
        refine pr_callV (As := [pv_i x1]) (S := []) (t := 0) dX12_size_49 mk_X12_148 lm_0 (ci := 12) (q := (RX12, TX12, 36)) rfl rfl rfl rfl (by decide) (by decide) (by decide) (Or.inl rfl) (tmX12_sizes e11) ?_
        have h := Option.some.inj h
        subst h
        exact pr_iret dX12_size_52 rfl
      · have h := pm_pos c_9 h
        refine pr_aload_n dX12_size_38 rfl ?_
        refine pr_bipush dX12_size_39 (by decide) ?_
        obtain ⟨q12, e13, h⟩ := pm_bs h
        refine pr_callV (As := [pv_i (-3)]) (S := []) (t := 0) dX12_size_41 mk_X12_103 lm_0 (ci := 12) (q := (RX12, TX12, 36)) rfl rfl rfl rfl (by decide) (by decide) (by decide) (Or.inl rfl) (tmX12_refuse e13) ?_
        refine pr_goto (tgt := 52) dX12_size_44 (by decide) ?_
        have h := Option.some.inj h
        subst h
        exact pr_iret dX12_size_52 rfl
  · have h := pm_pos c_3 h
    refine pr_aload_n dX12_size_15 rfl ?_
    refine pr_iconst dX12_size_16 ?_
    obtain ⟨q14, e15, h⟩ := pm_bs h
    refine pr_callV (As := [pv_i (-1)]) (S := []) (t := 0) dX12_size_17 mk_X12_103 lm_0 (ci := 12) (q := (RX12, TX12, 36)) rfl rfl rfl rfl (by decide) (by decide) (by decide) (Or.inl rfl) (tmX12_refuse e15) ?_
    have h := Option.some.inj h
    subst h
    exact pr_iret dX12_size_20 rfl
def bdX12_sizeAll_4 (z1 : Int) (z2 : Int) (σ : pm_M) : Option ((Int × Int × pm_M) ⊕ (Int × Int × pm_M)) :=
  if (wr (σ 25 (Int.toNat 752))) ≤ (wr z2) then (some (.inl (z1, z2, σ))) else (if (wr (σ 0 19)) ≤ 0 then (some (.inl (z1, z2, σ))) else ((fX12_post z2 0 σ).bind fun q3 => if (wr q3) = 2 then ((fX12_sizes z2 σ).bind fun q6 => some (.inr ((z1 + 1), (z2 + 1), q6.2))) else (some (.inr (z1, (z2 + 1), σ)))))
set_option maxHeartbeats 4000000 in
set_option maxRecDepth 100000 in
theorem tbX12_sizeAll_4 {lay0 lay' : List pm_S} {r : Option pm_V} {σ' : pm_M} : ∀ (a : Int × Int × pm_M) (e : (Int × Int × pm_M) ⊕ (Int × Int × pm_M)), (fun a => bdX12_sizeAll_4 a.1 a.2.1 a.2.2) a = some e → (∀ a, e = .inr a → (fun a => pm_J mX12_sizeAll 2 46 lay0 r lay' σ' 4 [some (pv_r 0), some (pv_i a.1), some (pv_i a.2.1), none] [] LAYM a.2.2) a) → (∀ a, e = .inl a → (fun a => pm_J mX12_sizeAll 2 46 lay0 r lay' σ' 51 [none, some (pv_i a.1), none, none] [] LAYM a.2.2) a) → (fun a => pm_J mX12_sizeAll 2 46 lay0 r lay' σ' 4 [some (pv_r 0), some (pv_i a.1), some (pv_i a.2.1), none] [] LAYM a.2.2) a := by
  intro a e h hc hx
  obtain ⟨z1, z2, σ⟩ := a
  have h : bdX12_sizeAll_4 z1 z2 σ = some e := h
  unfold bdX12_sizeAll_4 at h
  show pm_J mX12_sizeAll 2 46 lay0 r lay' σ' 4 [some (pv_r 0), some (pv_i z1), some (pv_i z2), none] [] LAYM σ
  refine pr_iload_n dX12_sizeAll_4 rfl ?_
  refine pr_aload_n dX12_sizeAll_5 rfl ?_
  refine pr_getR dX12_sizeAll_6 lk_X12_86 lm_0 rfl ?_
  refine pr_sipush dX12_sizeAll_9 (by decide) ?_
  refine pr_iald dX12_sizeAll_12 lm_25 (wr_eq (by decide) (by decide)) ⟨by decide, by decide⟩ ?_
  refine pr_icmp_ge (tgt := 51) dX12_sizeAll_13 rfl rfl (by decide) (fun c_1 => ?_) (fun c_1 => ?_)
  · have h := pm_pos c_1 h
    refine pr_weak (L2 := [none, some (pv_i z1), none, none]) ⟨Or.inl rfl, Or.inr rfl, Or.inl rfl, Or.inl rfl, trivial⟩ ?_
    exact hx _ (Option.some.inj h).symm
  · have h := pm_ng c_1 h
    refine pr_aload_n dX12_sizeAll_16 rfl ?_
    refine pr_getI dX12_sizeAll_17 lk_X12_135 lm_0 rfl ?_
    refine pr_if_le (tgt := 51) dX12_sizeAll_20 rfl (by decide) (fun c_2 => ?_) (fun c_2 => ?_)
    · have h := pm_pos c_2 h
      refine pr_weak (L2 := [none, some (pv_i z1), none, none]) ⟨Or.inl rfl, Or.inr rfl, Or.inl rfl, Or.inl rfl, trivial⟩ ?_
      exact hx _ (Option.some.inj h).symm
    · have h := pm_ng c_2 h
      refine pr_aload_n dX12_sizeAll_23 rfl ?_
      refine pr_iload_n dX12_sizeAll_24 rfl ?_
      refine pr_iconst dX12_sizeAll_25 ?_
      obtain ⟨q3, e4, h⟩ := pm_bs h
      refine pr_callV (As := [pv_i z2, pv_i 0]) (S := []) (t := 0) dX12_sizeAll_26 mk_X12_138 lm_0 (ci := 12) (q := (RX12, TX12, 36)) rfl rfl rfl rfl (by decide) (by decide) (by decide) (Or.inl rfl) (tmX12_post e4) ?_
      refine pr_iconst dX12_sizeAll_29 ?_
      refine pr_icmp_eq (tgt := 36) dX12_sizeAll_30 rfl (wr_eq (by decide) (by decide)) (by decide) (fun c_5 => ?_) (fun c_5 => ?_)
      · have h := pm_pos c_5 h
        refine pr_aload_n dX12_sizeAll_36 rfl ?_
        refine pr_iload_n dX12_sizeAll_37 rfl ?_
        obtain ⟨q6, e7, h⟩ := pm_bs h
        refine pr_callV (As := [pv_i z2]) (S := []) (t := 0) dX12_sizeAll_38 mk_X12_148 lm_0 (ci := 12) (q := (RX12, TX12, 36)) rfl rfl rfl rfl (by decide) (by decide) (by decide) (Or.inl rfl) (tmX12_sizes e7) ?_
        refine pr_istore_n dX12_sizeAll_41 (by decide) rfl ?_
        refine pr_iinc dX12_sizeAll_42 rfl (by decide) rfl ?_
        refine pr_iinc dX12_sizeAll_45 rfl (by decide) rfl ?_
        refine pr_goto (tgt := 4) dX12_sizeAll_48 (by decide) ?_
        refine pr_weak (L2 := [some (pv_r 0), some (pv_i (z1 + 1)), some (pv_i (z2 + 1)), none]) ⟨Or.inr rfl, Or.inr rfl, Or.inr rfl, Or.inl rfl, trivial⟩ ?_
        exact hc _ (Option.some.inj h).symm
      · have h := pm_ng c_5 h
        refine pr_goto (tgt := 45) dX12_sizeAll_33 (by decide) ?_
        refine pr_iinc dX12_sizeAll_45 rfl (by decide) rfl ?_
        refine pr_goto (tgt := 4) dX12_sizeAll_48 (by decide) ?_
        refine pr_weak (L2 := [some (pv_r 0), some (pv_i z1), some (pv_i (z2 + 1)), none]) ⟨Or.inr rfl, Or.inr rfl, Or.inr rfl, Or.inl rfl, trivial⟩ ?_
        exact hc _ (Option.some.inj h).symm
def fX12_sizeAll (σ : pm_M) : Option (Int × pm_M) :=
  (pm_it (fun a => bdX12_sizeAll_4 a.1 a.2.1 a.2.2) pm_fuel (0, 0, σ)).bind fun v8 => some (v8.1, v8.2.2)
set_option maxHeartbeats 4000000 in
set_option maxRecDepth 100000 in
theorem tmX12_sizeAll {σ : pm_M} {ρ : Int × pm_M} (h : fX12_sizeAll σ = some ρ) : pm_C mX12_sizeAll 2 46 [pv_r 0] LAYM σ (some (pv_i ρ.1)) LAYM ρ.2 := by
  refine pm_C.of rfl rfl (by decide) ?_
  show pm_J mX12_sizeAll 2 46 LAYM (some (pv_i ρ.1)) LAYM ρ.2 0 [some (pv_r 0), none, none, none] [] LAYM σ
  unfold fX12_sizeAll at h
  refine pr_iconst dX12_sizeAll_0 ?_
  refine pr_istore_n dX12_sizeAll_1 (by decide) rfl ?_
  refine pr_iconst dX12_sizeAll_2 ?_
  refine pr_istore_n dX12_sizeAll_3 (by decide) rfl ?_
  obtain ⟨v8, e9, h⟩ := pm_bs h
  refine pr_weak (L2 := [some (pv_r 0), some (pv_i 0), some (pv_i 0), none]) ⟨Or.inr rfl, Or.inr rfl, Or.inr rfl, Or.inl rfl, trivial⟩ ?_
  refine pm_it_J (P := fun a => pm_J mX12_sizeAll 2 46 LAYM (some (pv_i ρ.1)) LAYM ρ.2 4 [some (pv_r 0), some (pv_i a.1), some (pv_i a.2.1), none] [] LAYM a.2.2) (Rx := fun a => pm_J mX12_sizeAll 2 46 LAYM (some (pv_i ρ.1)) LAYM ρ.2 51 [none, some (pv_i a.1), none, none] [] LAYM a.2.2) (tbX12_sizeAll_4) _ _ _ e9 ?_
  show pm_J mX12_sizeAll 2 46 LAYM (some (pv_i ρ.1)) LAYM ρ.2 51 [none, some (pv_i v8.1), none, none] [] LAYM v8.2.2
  refine pr_iload_n dX12_sizeAll_51 rfl ?_
  have h := Option.some.inj h
  subst h
  exact pr_iret dX12_sizeAll_52 rfl
def jnX12_duty_18 (w1 : Int) (w2 : Int) (u0 : Int) (σ : pm_M) : Option (Int × pm_M) :=
  if (wr u0) = 0 then (pm_g (0 ≤ (wr w1) ∧ (wr w1) < 9) (pm_g (0 ≤ (wr w1) ∧ (wr w1) < 9) (some ((σ 7 (Int.toNat (wr w1))), (pm_up σ 7 (Int.toNat (wr w1)) w2))))) else ((fX12_refuse u0 σ).bind fun q7 => some (q7.1, q7.2))
set_option maxHeartbeats 4000000 in
set_option maxRecDepth 100000 in
theorem tjX12_duty_18 {lay0 : List pm_S} {w1 : Int} {w2 : Int} {u0 : Int} {σ : pm_M} {ρ : Int × pm_M} (h : jnX12_duty_18 w1 w2 u0 σ = some ρ) : pm_J mX12_duty 2 41 lay0 (some (pv_i ρ.1)) LAYM ρ.2 18 [some (pv_r 0), some (pv_i w1), some (pv_i w2), none, none] [pv_i u0] LAYM σ := by
  unfold jnX12_duty_18 at h
  refine pr_istore_n dX12_duty_18 (by decide) rfl ?_
  refine pr_iload_n dX12_duty_19 rfl ?_
  refine pr_if_eq (tgt := 29) dX12_duty_20 rfl (by decide) (fun c_4 => ?_) (fun c_4 => ?_)
  · have h := pm_pos c_4 h
    refine pr_aload_n dX12_duty_29 rfl ?_
    refine pr_getR dX12_duty_30 lk_X12_28 lm_0 rfl ?_
    refine pr_iload_n dX12_duty_33 rfl ?_
    obtain ⟨g_5, h⟩ := pm_gs h
    refine pr_iald dX12_duty_34 lm_7 rfl g_5 ?_
    refine pr_istore dX12_duty_35 (by decide) rfl ?_
    refine pr_aload_n dX12_duty_37 rfl ?_
    refine pr_getR dX12_duty_38 lk_X12_28 lm_0 rfl ?_
    refine pr_iload_n dX12_duty_41 rfl ?_
    refine pr_iload_n dX12_duty_42 rfl ?_
    obtain ⟨g_6, h⟩ := pm_gs h
    refine pr_iast dX12_duty_43 lm_7 rfl g_6 ?_
    refine pr_iload dX12_duty_44 rfl ?_
    have h := Option.some.inj h
    subst h
    exact pr_iret dX12_duty_46 rfl
  · have h := pm_ng c_4 h
    refine pr_aload_n dX12_duty_23 rfl ?_
    refine pr_iload_n dX12_duty_24 rfl ?_
    obtain ⟨q7, e8, h⟩ := pm_bs h
    refine pr_callV (As := [pv_i u0]) (S := []) (t := 0) dX12_duty_25 mk_X12_103 lm_0 (ci := 12) (q := (RX12, TX12, 36)) rfl rfl rfl rfl (by decide) (by decide) (by decide) (Or.inl rfl) (tmX12_refuse e8) ?_
    have h := Option.some.inj h
    subst h
    exact pr_iret dX12_duty_28 rfl
def fX12_duty (x1 : Int) (x2 : Int) (σ : pm_M) : Option (Int × pm_M) :=
  (fX12_isWeight x1).bind fun q1 => if (wr q1) = 0 then (jnX12_duty_18 x1 x2 (-1) σ) else ((fX12_wrong x2 0 99).bind fun q9 => jnX12_duty_18 x1 x2 q9 σ)
set_option maxHeartbeats 4000000 in
set_option maxRecDepth 100000 in
theorem tmX12_duty {x1 : Int} {x2 : Int} {σ : pm_M} {ρ : Int × pm_M} (h : fX12_duty x1 x2 σ = some ρ) : pm_C mX12_duty 2 41 [pv_r 0, pv_i x1, pv_i x2] LAYM σ (some (pv_i ρ.1)) LAYM ρ.2 := by
  refine pm_C.of rfl rfl (by decide) ?_
  show pm_J mX12_duty 2 41 LAYM (some (pv_i ρ.1)) LAYM ρ.2 0 [some (pv_r 0), some (pv_i x1), some (pv_i x2), none, none] [] LAYM σ
  unfold fX12_duty at h
  refine pr_iload_n dX12_duty_0 rfl ?_
  obtain ⟨q1, e2, h⟩ := pm_bs h
  refine pr_callS (av := [pv_i x1]) (S := []) dX12_duty_1 mk_X12_151 rfl rfl (by decide) (by decide) (by decide) (Or.inl rfl) (tmX12_isWeight e2) ?_
  refine pr_if_eq (tgt := 17) dX12_duty_4 rfl (by decide) (fun c_3 => ?_) (fun c_3 => ?_)
  · have h := pm_pos c_3 h
    refine pr_iconst dX12_duty_17 ?_
    refine pr_weak (L2 := [some (pv_r 0), some (pv_i x1), some (pv_i x2), none, none]) ⟨Or.inr rfl, Or.inr rfl, Or.inr rfl, Or.inl rfl, Or.inl rfl, trivial⟩ ?_
    exact tjX12_duty_18 h
  · have h := pm_ng c_3 h
    refine pr_iload_n dX12_duty_7 rfl ?_
    refine pr_iconst dX12_duty_8 ?_
    refine pr_bipush dX12_duty_9 (by decide) ?_
    obtain ⟨q9, e10, h⟩ := pm_bs h
    refine pr_callS (av := [pv_i x2, pv_i 0, pv_i 99]) (S := []) dX12_duty_11 mk_X12_99 rfl rfl (by decide) (by decide) (by decide) (Or.inl rfl) (tmX12_wrong e10) ?_
    refine pr_goto (tgt := 18) dX12_duty_14 (by decide) ?_
    refine pr_weak (L2 := [some (pv_r 0), some (pv_i x1), some (pv_i x2), none, none]) ⟨Or.inr rfl, Or.inr rfl, Or.inr rfl, Or.inl rfl, Or.inl rfl, trivial⟩ ?_
    exact tjX12_duty_18 h
def fX12_order (x1 : Int) (x2 : Int) (x3 : Int) (x4 : Int) (x5 : Int) (σ : pm_M) : Option (Int × pm_M) :=
  (fX12_isKind x1 σ).bind fun q1 => if (wr q1) = 0 then ((fX12_refuse (-1) σ).bind fun q4 => some (q4.1, q4.2)) else ((fX12_isWeight x2).bind fun q6 => if (wr q6) = 0 then ((fX12_refuse (-1) σ).bind fun q36 => some (q36.1, q36.2)) else (if (wr x3) < 1 then ((fX12_refuse (-4) σ).bind fun q10 => some (q10.1, q10.2)) else (if (wr x4) < 0 then ((fX12_refuse (-4) σ).bind fun q13 => some (q13.1, q13.2)) else (if 0 ≤ (wr x5) then (if 20 < (wr x3) then ((fX12_refuse (-6) σ).bind fun q17 => some (q17.1, q17.2)) else (if 100 < (wr x4) then ((fX12_refuse (-6) σ).bind fun q20 => some (q20.1, q20.2)) else (if 999 < (wr x5) then ((fX12_refuse (-6) σ).bind fun q23 => some (q23.1, q23.2)) else (if (wr (σ 0 17)) = 12 then ((fX12_refuse (-6) σ).bind fun q32 => some (q32.1, q32.2)) else (pm_g (0 ≤ (wr (σ 0 17)) ∧ (wr (σ 0 17)) < 12) (pm_g (0 ≤ (wr ((pm_up σ 16 (Int.toNat (wr (σ 0 17))) x1) 0 17)) ∧ (wr ((pm_up σ 16 (Int.toNat (wr (σ 0 17))) x1) 0 17)) < 12) (pm_g (0 ≤ (wr ((pm_up (pm_up σ 16 (Int.toNat (wr (σ 0 17))) x1) 17 (Int.toNat (wr ((pm_up σ 16 (Int.toNat (wr (σ 0 17))) x1) 0 17))) x2) 0 17)) ∧ (wr ((pm_up (pm_up σ 16 (Int.toNat (wr (σ 0 17))) x1) 17 (Int.toNat (wr ((pm_up σ 16 (Int.toNat (wr (σ 0 17))) x1) 0 17))) x2) 0 17)) < 12) (pm_g (0 ≤ (wr ((pm_up (pm_up (pm_up σ 16 (Int.toNat (wr (σ 0 17))) x1) 17 (Int.toNat (wr ((pm_up σ 16 (Int.toNat (wr (σ 0 17))) x1) 0 17))) x2) 18 (Int.toNat (wr ((pm_up (pm_up σ 16 (Int.toNat (wr (σ 0 17))) x1) 17 (Int.toNat (wr ((pm_up σ 16 (Int.toNat (wr (σ 0 17))) x1) 0 17))) x2) 0 17))) x3) 0 17)) ∧ (wr ((pm_up (pm_up (pm_up σ 16 (Int.toNat (wr (σ 0 17))) x1) 17 (Int.toNat (wr ((pm_up σ 16 (Int.toNat (wr (σ 0 17))) x1) 0 17))) x2) 18 (Int.toNat (wr ((pm_up (pm_up σ 16 (Int.toNat (wr (σ 0 17))) x1) 17 (Int.toNat (wr ((pm_up σ 16 (Int.toNat (wr (σ 0 17))) x1) 0 17))) x2) 0 17))) x3) 0 17)) < 12) (pm_g (0 ≤ (wr ((pm_up (pm_up (pm_up (pm_up σ 16 (Int.toNat (wr (σ 0 17))) x1) 17 (Int.toNat (wr ((pm_up σ 16 (Int.toNat (wr (σ 0 17))) x1) 0 17))) x2) 18 (Int.toNat (wr ((pm_up (pm_up σ 16 (Int.toNat (wr (σ 0 17))) x1) 17 (Int.toNat (wr ((pm_up σ 16 (Int.toNat (wr (σ 0 17))) x1) 0 17))) x2) 0 17))) x3) 19 (Int.toNat (wr ((pm_up (pm_up (pm_up σ 16 (Int.toNat (wr (σ 0 17))) x1) 17 (Int.toNat (wr ((pm_up σ 16 (Int.toNat (wr (σ 0 17))) x1) 0 17))) x2) 18 (Int.toNat (wr ((pm_up (pm_up σ 16 (Int.toNat (wr (σ 0 17))) x1) 17 (Int.toNat (wr ((pm_up σ 16 (Int.toNat (wr (σ 0 17))) x1) 0 17))) x2) 0 17))) x3) 0 17))) x4) 0 17)) ∧ (wr ((pm_up (pm_up (pm_up (pm_up σ 16 (Int.toNat (wr (σ 0 17))) x1) 17 (Int.toNat (wr ((pm_up σ 16 (Int.toNat (wr (σ 0 17))) x1) 0 17))) x2) 18 (Int.toNat (wr ((pm_up (pm_up σ 16 (Int.toNat (wr (σ 0 17))) x1) 17 (Int.toNat (wr ((pm_up σ 16 (Int.toNat (wr (σ 0 17))) x1) 0 17))) x2) 0 17))) x3) 19 (Int.toNat (wr ((pm_up (pm_up (pm_up σ 16 (Int.toNat (wr (σ 0 17))) x1) 17 (Int.toNat (wr ((pm_up σ 16 (Int.toNat (wr (σ 0 17))) x1) 0 17))) x2) 18 (Int.toNat (wr ((pm_up (pm_up σ 16 (Int.toNat (wr (σ 0 17))) x1) 17 (Int.toNat (wr ((pm_up σ 16 (Int.toNat (wr (σ 0 17))) x1) 0 17))) x2) 0 17))) x3) 0 17))) x4) 0 17)) < 12) (pm_g (0 ≤ (wr ((pm_up (pm_up (pm_up (pm_up (pm_up σ 16 (Int.toNat (wr (σ 0 17))) x1) 17 (Int.toNat (wr ((pm_up σ 16 (Int.toNat (wr (σ 0 17))) x1) 0 17))) x2) 18 (Int.toNat (wr ((pm_up (pm_up σ 16 (Int.toNat (wr (σ 0 17))) x1) 17 (Int.toNat (wr ((pm_up σ 16 (Int.toNat (wr (σ 0 17))) x1) 0 17))) x2) 0 17))) x3) 19 (Int.toNat (wr ((pm_up (pm_up (pm_up σ 16 (Int.toNat (wr (σ 0 17))) x1) 17 (Int.toNat (wr ((pm_up σ 16 (Int.toNat (wr (σ 0 17))) x1) 0 17))) x2) 18 (Int.toNat (wr ((pm_up (pm_up σ 16 (Int.toNat (wr (σ 0 17))) x1) 17 (Int.toNat (wr ((pm_up σ 16 (Int.toNat (wr (σ 0 17))) x1) 0 17))) x2) 0 17))) x3) 0 17))) x4) 20 (Int.toNat (wr ((pm_up (pm_up (pm_up (pm_up σ 16 (Int.toNat (wr (σ 0 17))) x1) 17 (Int.toNat (wr ((pm_up σ 16 (Int.toNat (wr (σ 0 17))) x1) 0 17))) x2) 18 (Int.toNat (wr ((pm_up (pm_up σ 16 (Int.toNat (wr (σ 0 17))) x1) 17 (Int.toNat (wr ((pm_up σ 16 (Int.toNat (wr (σ 0 17))) x1) 0 17))) x2) 0 17))) x3) 19 (Int.toNat (wr ((pm_up (pm_up (pm_up σ 16 (Int.toNat (wr (σ 0 17))) x1) 17 (Int.toNat (wr ((pm_up σ 16 (Int.toNat (wr (σ 0 17))) x1) 0 17))) x2) 18 (Int.toNat (wr ((pm_up (pm_up σ 16 (Int.toNat (wr (σ 0 17))) x1) 17 (Int.toNat (wr ((pm_up σ 16 (Int.toNat (wr (σ 0 17))) x1) 0 17))) x2) 0 17))) x3) 0 17))) x4) 0 17))) x5) 0 17)) ∧ (wr ((pm_up (pm_up (pm_up (pm_up (pm_up σ 16 (Int.toNat (wr (σ 0 17))) x1) 17 (Int.toNat (wr ((pm_up σ 16 (Int.toNat (wr (σ 0 17))) x1) 0 17))) x2) 18 (Int.toNat (wr ((pm_up (pm_up σ 16 (Int.toNat (wr (σ 0 17))) x1) 17 (Int.toNat (wr ((pm_up σ 16 (Int.toNat (wr (σ 0 17))) x1) 0 17))) x2) 0 17))) x3) 19 (Int.toNat (wr ((pm_up (pm_up (pm_up σ 16 (Int.toNat (wr (σ 0 17))) x1) 17 (Int.toNat (wr ((pm_up σ 16 (Int.toNat (wr (σ 0 17))) x1) 0 17))) x2) 18 (Int.toNat (wr ((pm_up (pm_up σ 16 (Int.toNat (wr (σ 0 17))) x1) 17 (Int.toNat (wr ((pm_up σ 16 (Int.toNat (wr (σ 0 17))) x1) 0 17))) x2) 0 17))) x3) 0 17))) x4) 20 (Int.toNat (wr ((pm_up (pm_up (pm_up (pm_up σ 16 (Int.toNat (wr (σ 0 17))) x1) 17 (Int.toNat (wr ((pm_up σ 16 (Int.toNat (wr (σ 0 17))) x1) 0 17))) x2) 18 (Int.toNat (wr ((pm_up (pm_up σ 16 (Int.toNat (wr (σ 0 17))) x1) 17 (Int.toNat (wr ((pm_up σ 16 (Int.toNat (wr (σ 0 17))) x1) 0 17))) x2) 0 17))) x3) 19 (Int.toNat (wr ((pm_up (pm_up (pm_up σ 16 (Int.toNat (wr (σ 0 17))) x1) 17 (Int.toNat (wr ((pm_up σ 16 (Int.toNat (wr (σ 0 17))) x1) 0 17))) x2) 18 (Int.toNat (wr ((pm_up (pm_up σ 16 (Int.toNat (wr (σ 0 17))) x1) 17 (Int.toNat (wr ((pm_up σ 16 (Int.toNat (wr (σ 0 17))) x1) 0 17))) x2) 0 17))) x3) 0 17))) x4) 0 17))) x5) 0 17)) < 12) (some ((((pm_up (pm_up (pm_up (pm_up (pm_up (pm_up (pm_up σ 16 (Int.toNat (wr (σ 0 17))) x1) 17 (Int.toNat (wr ((pm_up σ 16 (Int.toNat (wr (σ 0 17))) x1) 0 17))) x2) 18 (Int.toNat (wr ((pm_up (pm_up σ 16 (Int.toNat (wr (σ 0 17))) x1) 17 (Int.toNat (wr ((pm_up σ 16 (Int.toNat (wr (σ 0 17))) x1) 0 17))) x2) 0 17))) x3) 19 (Int.toNat (wr ((pm_up (pm_up (pm_up σ 16 (Int.toNat (wr (σ 0 17))) x1) 17 (Int.toNat (wr ((pm_up σ 16 (Int.toNat (wr (σ 0 17))) x1) 0 17))) x2) 18 (Int.toNat (wr ((pm_up (pm_up σ 16 (Int.toNat (wr (σ 0 17))) x1) 17 (Int.toNat (wr ((pm_up σ 16 (Int.toNat (wr (σ 0 17))) x1) 0 17))) x2) 0 17))) x3) 0 17))) x4) 20 (Int.toNat (wr ((pm_up (pm_up (pm_up (pm_up σ 16 (Int.toNat (wr (σ 0 17))) x1) 17 (Int.toNat (wr ((pm_up σ 16 (Int.toNat (wr (σ 0 17))) x1) 0 17))) x2) 18 (Int.toNat (wr ((pm_up (pm_up σ 16 (Int.toNat (wr (σ 0 17))) x1) 17 (Int.toNat (wr ((pm_up σ 16 (Int.toNat (wr (σ 0 17))) x1) 0 17))) x2) 0 17))) x3) 19 (Int.toNat (wr ((pm_up (pm_up (pm_up σ 16 (Int.toNat (wr (σ 0 17))) x1) 17 (Int.toNat (wr ((pm_up σ 16 (Int.toNat (wr (σ 0 17))) x1) 0 17))) x2) 18 (Int.toNat (wr ((pm_up (pm_up σ 16 (Int.toNat (wr (σ 0 17))) x1) 17 (Int.toNat (wr ((pm_up σ 16 (Int.toNat (wr (σ 0 17))) x1) 0 17))) x2) 0 17))) x3) 0 17))) x4) 0 17))) x5) 21 (Int.toNat (wr ((pm_up (pm_up (pm_up (pm_up (pm_up σ 16 (Int.toNat (wr (σ 0 17))) x1) 17 (Int.toNat (wr ((pm_up σ 16 (Int.toNat (wr (σ 0 17))) x1) 0 17))) x2) 18 (Int.toNat (wr ((pm_up (pm_up σ 16 (Int.toNat (wr (σ 0 17))) x1) 17 (Int.toNat (wr ((pm_up σ 16 (Int.toNat (wr (σ 0 17))) x1) 0 17))) x2) 0 17))) x3) 19 (Int.toNat (wr ((pm_up (pm_up (pm_up σ 16 (Int.toNat (wr (σ 0 17))) x1) 17 (Int.toNat (wr ((pm_up σ 16 (Int.toNat (wr (σ 0 17))) x1) 0 17))) x2) 18 (Int.toNat (wr ((pm_up (pm_up σ 16 (Int.toNat (wr (σ 0 17))) x1) 17 (Int.toNat (wr ((pm_up σ 16 (Int.toNat (wr (σ 0 17))) x1) 0 17))) x2) 0 17))) x3) 0 17))) x4) 20 (Int.toNat (wr ((pm_up (pm_up (pm_up (pm_up σ 16 (Int.toNat (wr (σ 0 17))) x1) 17 (Int.toNat (wr ((pm_up σ 16 (Int.toNat (wr (σ 0 17))) x1) 0 17))) x2) 18 (Int.toNat (wr ((pm_up (pm_up σ 16 (Int.toNat (wr (σ 0 17))) x1) 17 (Int.toNat (wr ((pm_up σ 16 (Int.toNat (wr (σ 0 17))) x1) 0 17))) x2) 0 17))) x3) 19 (Int.toNat (wr ((pm_up (pm_up (pm_up σ 16 (Int.toNat (wr (σ 0 17))) x1) 17 (Int.toNat (wr ((pm_up σ 16 (Int.toNat (wr (σ 0 17))) x1) 0 17))) x2) 18 (Int.toNat (wr ((pm_up (pm_up σ 16 (Int.toNat (wr (σ 0 17))) x1) 17 (Int.toNat (wr ((pm_up σ 16 (Int.toNat (wr (σ 0 17))) x1) 0 17))) x2) 0 17))) x3) 0 17))) x4) 0 17))) x5) 0 17))) (-9)) 0 17 (((pm_up (pm_up (pm_up (pm_up (pm_up (pm_up σ 16 (Int.toNat (wr (σ 0 17))) x1) 17 (Int.toNat (wr ((pm_up σ 16 (Int.toNat (wr (σ 0 17))) x1) 0 17))) x2) 18 (Int.toNat (wr ((pm_up (pm_up σ 16 (Int.toNat (wr (σ 0 17))) x1) 17 (Int.toNat (wr ((pm_up σ 16 (Int.toNat (wr (σ 0 17))) x1) 0 17))) x2) 0 17))) x3) 19 (Int.toNat (wr ((pm_up (pm_up (pm_up σ 16 (Int.toNat (wr (σ 0 17))) x1) 17 (Int.toNat (wr ((pm_up σ 16 (Int.toNat (wr (σ 0 17))) x1) 0 17))) x2) 18 (Int.toNat (wr ((pm_up (pm_up σ 16 (Int.toNat (wr (σ 0 17))) x1) 17 (Int.toNat (wr ((pm_up σ 16 (Int.toNat (wr (σ 0 17))) x1) 0 17))) x2) 0 17))) x3) 0 17))) x4) 20 (Int.toNat (wr ((pm_up (pm_up (pm_up (pm_up σ 16 (Int.toNat (wr (σ 0 17))) x1) 17 (Int.toNat (wr ((pm_up σ 16 (Int.toNat (wr (σ 0 17))) x1) 0 17))) x2) 18 (Int.toNat (wr ((pm_up (pm_up σ 16 (Int.toNat (wr (σ 0 17))) x1) 17 (Int.toNat (wr ((pm_up σ 16 (Int.toNat (wr (σ 0 17))) x1) 0 17))) x2) 0 17))) x3) 19 (Int.toNat (wr ((pm_up (pm_up (pm_up σ 16 (Int.toNat (wr (σ 0 17))) x1) 17 (Int.toNat (wr ((pm_up σ 16 (Int.toNat (wr (σ 0 17))) x1) 0 17))) x2) 18 (Int.toNat (wr ((pm_up (pm_up σ 16 (Int.toNat (wr (σ 0 17))) x1) 17 (Int.toNat (wr ((pm_up σ 16 (Int.toNat (wr (σ 0 17))) x1) 0 17))) x2) 0 17))) x3) 0 17))) x4) 0 17))) x5) 21 (Int.toNat (wr ((pm_up (pm_up (pm_up (pm_up (pm_up σ 16 (Int.toNat (wr (σ 0 17))) x1) 17 (Int.toNat (wr ((pm_up σ 16 (Int.toNat (wr (σ 0 17))) x1) 0 17))) x2) 18 (Int.toNat (wr ((pm_up (pm_up σ 16 (Int.toNat (wr (σ 0 17))) x1) 17 (Int.toNat (wr ((pm_up σ 16 (Int.toNat (wr (σ 0 17))) x1) 0 17))) x2) 0 17))) x3) 19 (Int.toNat (wr ((pm_up (pm_up (pm_up σ 16 (Int.toNat (wr (σ 0 17))) x1) 17 (Int.toNat (wr ((pm_up σ 16 (Int.toNat (wr (σ 0 17))) x1) 0 17))) x2) 18 (Int.toNat (wr ((pm_up (pm_up σ 16 (Int.toNat (wr (σ 0 17))) x1) 17 (Int.toNat (wr ((pm_up σ 16 (Int.toNat (wr (σ 0 17))) x1) 0 17))) x2) 0 17))) x3) 0 17))) x4) 20 (Int.toNat (wr ((pm_up (pm_up (pm_up (pm_up σ 16 (Int.toNat (wr (σ 0 17))) x1) 17 (Int.toNat (wr ((pm_up σ 16 (Int.toNat (wr (σ 0 17))) x1) 0 17))) x2) 18 (Int.toNat (wr ((pm_up (pm_up σ 16 (Int.toNat (wr (σ 0 17))) x1) 17 (Int.toNat (wr ((pm_up σ 16 (Int.toNat (wr (σ 0 17))) x1) 0 17))) x2) 0 17))) x3) 19 (Int.toNat (wr ((pm_up (pm_up (pm_up σ 16 (Int.toNat (wr (σ 0 17))) x1) 17 (Int.toNat (wr ((pm_up σ 16 (Int.toNat (wr (σ 0 17))) x1) 0 17))) x2) 18 (Int.toNat (wr ((pm_up (pm_up σ 16 (Int.toNat (wr (σ 0 17))) x1) 17 (Int.toNat (wr ((pm_up σ 16 (Int.toNat (wr (σ 0 17))) x1) 0 17))) x2) 0 17))) x3) 0 17))) x4) 0 17))) x5) 0 17))) (-9)) 0 17) + 1)) 0 17) - 1), (pm_up (pm_up (pm_up (pm_up (pm_up (pm_up (pm_up σ 16 (Int.toNat (wr (σ 0 17))) x1) 17 (Int.toNat (wr ((pm_up σ 16 (Int.toNat (wr (σ 0 17))) x1) 0 17))) x2) 18 (Int.toNat (wr ((pm_up (pm_up σ 16 (Int.toNat (wr (σ 0 17))) x1) 17 (Int.toNat (wr ((pm_up σ 16 (Int.toNat (wr (σ 0 17))) x1) 0 17))) x2) 0 17))) x3) 19 (Int.toNat (wr ((pm_up (pm_up (pm_up σ 16 (Int.toNat (wr (σ 0 17))) x1) 17 (Int.toNat (wr ((pm_up σ 16 (Int.toNat (wr (σ 0 17))) x1) 0 17))) x2) 18 (Int.toNat (wr ((pm_up (pm_up σ 16 (Int.toNat (wr (σ 0 17))) x1) 17 (Int.toNat (wr ((pm_up σ 16 (Int.toNat (wr (σ 0 17))) x1) 0 17))) x2) 0 17))) x3) 0 17))) x4) 20 (Int.toNat (wr ((pm_up (pm_up (pm_up (pm_up σ 16 (Int.toNat (wr (σ 0 17))) x1) 17 (Int.toNat (wr ((pm_up σ 16 (Int.toNat (wr (σ 0 17))) x1) 0 17))) x2) 18 (Int.toNat (wr ((pm_up (pm_up σ 16 (Int.toNat (wr (σ 0 17))) x1) 17 (Int.toNat (wr ((pm_up σ 16 (Int.toNat (wr (σ 0 17))) x1) 0 17))) x2) 0 17))) x3) 19 (Int.toNat (wr ((pm_up (pm_up (pm_up σ 16 (Int.toNat (wr (σ 0 17))) x1) 17 (Int.toNat (wr ((pm_up σ 16 (Int.toNat (wr (σ 0 17))) x1) 0 17))) x2) 18 (Int.toNat (wr ((pm_up (pm_up σ 16 (Int.toNat (wr (σ 0 17))) x1) 17 (Int.toNat (wr ((pm_up σ 16 (Int.toNat (wr (σ 0 17))) x1) 0 17))) x2) 0 17))) x3) 0 17))) x4) 0 17))) x5) 21 (Int.toNat (wr ((pm_up (pm_up (pm_up (pm_up (pm_up σ 16 (Int.toNat (wr (σ 0 17))) x1) 17 (Int.toNat (wr ((pm_up σ 16 (Int.toNat (wr (σ 0 17))) x1) 0 17))) x2) 18 (Int.toNat (wr ((pm_up (pm_up σ 16 (Int.toNat (wr (σ 0 17))) x1) 17 (Int.toNat (wr ((pm_up σ 16 (Int.toNat (wr (σ 0 17))) x1) 0 17))) x2) 0 17))) x3) 19 (Int.toNat (wr ((pm_up (pm_up (pm_up σ 16 (Int.toNat (wr (σ 0 17))) x1) 17 (Int.toNat (wr ((pm_up σ 16 (Int.toNat (wr (σ 0 17))) x1) 0 17))) x2) 18 (Int.toNat (wr ((pm_up (pm_up σ 16 (Int.toNat (wr (σ 0 17))) x1) 17 (Int.toNat (wr ((pm_up σ 16 (Int.toNat (wr (σ 0 17))) x1) 0 17))) x2) 0 17))) x3) 0 17))) x4) 20 (Int.toNat (wr ((pm_up (pm_up (pm_up (pm_up σ 16 (Int.toNat (wr (σ 0 17))) x1) 17 (Int.toNat (wr ((pm_up σ 16 (Int.toNat (wr (σ 0 17))) x1) 0 17))) x2) 18 (Int.toNat (wr ((pm_up (pm_up σ 16 (Int.toNat (wr (σ 0 17))) x1) 17 (Int.toNat (wr ((pm_up σ 16 (Int.toNat (wr (σ 0 17))) x1) 0 17))) x2) 0 17))) x3) 19 (Int.toNat (wr ((pm_up (pm_up (pm_up σ 16 (Int.toNat (wr (σ 0 17))) x1) 17 (Int.toNat (wr ((pm_up σ 16 (Int.toNat (wr (σ 0 17))) x1) 0 17))) x2) 18 (Int.toNat (wr ((pm_up (pm_up σ 16 (Int.toNat (wr (σ 0 17))) x1) 17 (Int.toNat (wr ((pm_up σ 16 (Int.toNat (wr (σ 0 17))) x1) 0 17))) x2) 0 17))) x3) 0 17))) x4) 0 17))) x5) 0 17))) (-9)) 0 17 (((pm_up (pm_up (pm_up (pm_up (pm_up (pm_up σ 16 (Int.toNat (wr (σ 0 17))) x1) 17 (Int.toNat (wr ((pm_up σ 16 (Int.toNat (wr (σ 0 17))) x1) 0 17))) x2) 18 (Int.toNat (wr ((pm_up (pm_up σ 16 (Int.toNat (wr (σ 0 17))) x1) 17 (Int.toNat (wr ((pm_up σ 16 (Int.toNat (wr (σ 0 17))) x1) 0 17))) x2) 0 17))) x3) 19 (Int.toNat (wr ((pm_up (pm_up (pm_up σ 16 (Int.toNat (wr (σ 0 17))) x1) 17 (Int.toNat (wr ((pm_up σ 16 (Int.toNat (wr (σ 0 17))) x1) 0 17))) x2) 18 (Int.toNat (wr ((pm_up (pm_up σ 16 (Int.toNat (wr (σ 0 17))) x1) 17 (Int.toNat (wr ((pm_up σ 16 (Int.toNat (wr (σ 0 17))) x1) 0 17))) x2) 0 17))) x3) 0 17))) x4) 20 (Int.toNat (wr ((pm_up (pm_up (pm_up (pm_up σ 16 (Int.toNat (wr (σ 0 17))) x1) 17 (Int.toNat (wr ((pm_up σ 16 (Int.toNat (wr (σ 0 17))) x1) 0 17))) x2) 18 (Int.toNat (wr ((pm_up (pm_up σ 16 (Int.toNat (wr (σ 0 17))) x1) 17 (Int.toNat (wr ((pm_up σ 16 (Int.toNat (wr (σ 0 17))) x1) 0 17))) x2) 0 17))) x3) 19 (Int.toNat (wr ((pm_up (pm_up (pm_up σ 16 (Int.toNat (wr (σ 0 17))) x1) 17 (Int.toNat (wr ((pm_up σ 16 (Int.toNat (wr (σ 0 17))) x1) 0 17))) x2) 18 (Int.toNat (wr ((pm_up (pm_up σ 16 (Int.toNat (wr (σ 0 17))) x1) 17 (Int.toNat (wr ((pm_up σ 16 (Int.toNat (wr (σ 0 17))) x1) 0 17))) x2) 0 17))) x3) 0 17))) x4) 0 17))) x5) 21 (Int.toNat (wr ((pm_up (pm_up (pm_up (pm_up (pm_up σ 16 (Int.toNat (wr (σ 0 17))) x1) 17 (Int.toNat (wr ((pm_up σ 16 (Int.toNat (wr (σ 0 17))) x1) 0 17))) x2) 18 (Int.toNat (wr ((pm_up (pm_up σ 16 (Int.toNat (wr (σ 0 17))) x1) 17 (Int.toNat (wr ((pm_up σ 16 (Int.toNat (wr (σ 0 17))) x1) 0 17))) x2) 0 17))) x3) 19 (Int.toNat (wr ((pm_up (pm_up (pm_up σ 16 (Int.toNat (wr (σ 0 17))) x1) 17 (Int.toNat (wr ((pm_up σ 16 (Int.toNat (wr (σ 0 17))) x1) 0 17))) x2) 18 (Int.toNat (wr ((pm_up (pm_up σ 16 (Int.toNat (wr (σ 0 17))) x1) 17 (Int.toNat (wr ((pm_up σ 16 (Int.toNat (wr (σ 0 17))) x1) 0 17))) x2) 0 17))) x3) 0 17))) x4) 20 (Int.toNat (wr ((pm_up (pm_up (pm_up (pm_up σ 16 (Int.toNat (wr (σ 0 17))) x1) 17 (Int.toNat (wr ((pm_up σ 16 (Int.toNat (wr (σ 0 17))) x1) 0 17))) x2) 18 (Int.toNat (wr ((pm_up (pm_up σ 16 (Int.toNat (wr (σ 0 17))) x1) 17 (Int.toNat (wr ((pm_up σ 16 (Int.toNat (wr (σ 0 17))) x1) 0 17))) x2) 0 17))) x3) 19 (Int.toNat (wr ((pm_up (pm_up (pm_up σ 16 (Int.toNat (wr (σ 0 17))) x1) 17 (Int.toNat (wr ((pm_up σ 16 (Int.toNat (wr (σ 0 17))) x1) 0 17))) x2) 18 (Int.toNat (wr ((pm_up (pm_up σ 16 (Int.toNat (wr (σ 0 17))) x1) 17 (Int.toNat (wr ((pm_up σ 16 (Int.toNat (wr (σ 0 17))) x1) 0 17))) x2) 0 17))) x3) 0 17))) x4) 0 17))) x5) 0 17))) (-9)) 0 17) + 1)))))))))))))) else ((fX12_refuse (-4) σ).bind fun q34 => some (q34.1, q34.2))))))
set_option maxHeartbeats 4000000 in
set_option maxRecDepth 100000 in
theorem tmX12_order {x1 : Int} {x2 : Int} {x3 : Int} {x4 : Int} {x5 : Int} {σ : pm_M} {ρ : Int × pm_M} (h : fX12_order x1 x2 x3 x4 x5 σ = some ρ) : pm_C mX12_order 2 42 [pv_r 0, pv_i x1, pv_i x2, pv_i x3, pv_i x4, pv_i x5] LAYM σ (some (pv_i ρ.1)) LAYM ρ.2 := by
  refine pm_C.of rfl rfl (by decide) ?_
  show pm_J mX12_order 2 42 LAYM (some (pv_i ρ.1)) LAYM ρ.2 0 [some (pv_r 0), some (pv_i x1), some (pv_i x2), some (pv_i x3), some (pv_i x4), some (pv_i x5)] [] LAYM σ
  unfold fX12_order at h
  refine pr_aload_n dX12_order_0 rfl ?_
  refine pr_iload_n dX12_order_1 rfl ?_
  obtain ⟨q1, e2, h⟩ := pm_bs h
  refine pr_callV (As := [pv_i x1]) (S := []) (t := 0) dX12_order_2 mk_X12_111 lm_0 (ci := 12) (q := (RX12, TX12, 36)) rfl rfl rfl rfl (by decide) (by decide) (by decide) (Or.inl rfl) (tmX12_isKind e2) ?_
  refine pr_if_eq (tgt := 15) dX12_order_5 rfl (by decide) (fun c_3 => ?_) (fun c_3 => ?_)
  · have h := pm_pos c_3 h
    refine pr_aload_n dX12_order_15 rfl ?_
    refine pr_iconst dX12_order_16 ?_
    obtain ⟨q4, e5, h⟩ := pm_bs h
    refine pr_callV (As := [pv_i (-1)]) (S := []) (t := 0) dX12_order_17 mk_X12_103 lm_0 (ci := 12) (q := (RX12, TX12, 36)) rfl rfl rfl rfl (by decide) (by decide) (by decide) (Or.inl rfl) (tmX12_refuse e5) ?_
    have h := Option.some.inj h
    subst h
    exact pr_iret dX12_order_20 rfl
  · have h := pm_ng c_3 h
    refine pr_iload_n dX12_order_8 rfl ?_
    obtain ⟨q6, e7, h⟩ := pm_bs h
    refine pr_callS (av := [pv_i x2]) (S := []) dX12_order_9 mk_X12_151 rfl rfl (by decide) (by decide) (by decide) (Or.inl rfl) (tmX12_isWeight e7) ?_
    refine pr_if_ne (tgt := 21) dX12_order_12 rfl (by decide) (fun c_8 => ?_) (fun c_8 => ?_)
    · have h := pm_ng c_8 h
      refine pr_iload_n dX12_order_21 rfl ?_
      refine pr_iconst dX12_order_22 ?_
      refine pr_icmp_lt (tgt := 36) dX12_order_23 rfl (wr_eq (by decide) (by decide)) (by decide) (fun c_9 => ?_) (fun c_9 => ?_)
      · have h := pm_pos c_9 h
        refine pr_aload_n dX12_order_36 rfl ?_
        refine pr_bipush dX12_order_37 (by decide) ?_
        obtain ⟨q10, e11, h⟩ := pm_bs h
        refine pr_callV (As := [pv_i (-4)]) (S := []) (t := 0) dX12_order_39 mk_X12_103 lm_0 (ci := 12) (q := (RX12, TX12, 36)) rfl rfl rfl rfl (by decide) (by decide) (by decide) (Or.inl rfl) (tmX12_refuse e11) ?_
        have h := Option.some.inj h
        subst h
        exact pr_iret dX12_order_42 rfl
      · have h := pm_ng c_9 h
        refine pr_iload dX12_order_26 rfl ?_
        refine pr_if_lt (tgt := 36) dX12_order_28 rfl (by decide) (fun c_12 => ?_) (fun c_12 => ?_)
        · have h := pm_pos c_12 h
          refine pr_aload_n dX12_order_36 rfl ?_
          refine pr_bipush dX12_order_37 (by decide) ?_
          obtain ⟨q13, e14, h⟩ := pm_bs h
          refine pr_callV (As := [pv_i (-4)]) (S := []) (t := 0) dX12_order_39 mk_X12_103 lm_0 (ci := 12) (q := (RX12, TX12, 36)) rfl rfl rfl rfl (by decide) (by decide) (by decide) (Or.inl rfl) (tmX12_refuse e14) ?_
          have h := Option.some.inj h
          subst h
          exact pr_iret dX12_order_42 rfl
        · have h := pm_ng c_12 h
          refine pr_iload dX12_order_31 rfl ?_
          refine pr_if_ge (tgt := 43) dX12_order_33 rfl (by decide) (fun c_15 => ?_) (fun c_15 => ?_)
          · have h := pm_pos c_15 h
            refine pr_iload_n dX12_order_43 rfl ?_
            refine pr_bipush dX12_order_44 (by decide) ?_
            refine pr_icmp_gt (tgt := 73) dX12_order_46 rfl (wr_eq (by decide) (by decide)) (by decide) (fun c_16 => ?_) (fun c_16 => ?_)
            · have h := pm_pos c_16 h
              refine pr_aload_n dX12_order_73 rfl ?_
              refine pr_bipush dX12_order_74 (by decide) ?_
              obtain ⟨q17, e18, h⟩ := pm_bs h
              refine pr_callV (As := [pv_i (-6)]) (S := []) (t := 0) dX12_order_76 mk_X12_103 lm_0 (ci := 12) (q := (RX12, TX12, 36)) rfl rfl rfl rfl (by decide) (by decide) (by decide) (Or.inl rfl) (tmX12_refuse e18) ?_
              have h := Option.some.inj h
              subst h
              exact pr_iret dX12_order_79 rfl
            · have h := pm_ng c_16 h
              refine pr_iload dX12_order_49 rfl ?_
              refine pr_bipush dX12_order_51 (by decide) ?_
              refine pr_icmp_gt (tgt := 73) dX12_order_53 rfl (wr_eq (by decide) (by decide)) (by decide) (fun c_19 => ?_) (fun c_19 => ?_)
              · have h := pm_pos c_19 h
                refine pr_aload_n dX12_order_73 rfl ?_
                refine pr_bipush dX12_order_74 (by decide) ?_
                obtain ⟨q20, e21, h⟩ := pm_bs h
                refine pr_callV (As := [pv_i (-6)]) (S := []) (t := 0) dX12_order_76 mk_X12_103 lm_0 (ci := 12) (q := (RX12, TX12, 36)) rfl rfl rfl rfl (by decide) (by decide) (by decide) (Or.inl rfl) (tmX12_refuse e21) ?_
                have h := Option.some.inj h
                subst h
                exact pr_iret dX12_order_79 rfl
              · have h := pm_ng c_19 h
                refine pr_iload dX12_order_56 rfl ?_
                refine pr_sipush dX12_order_58 (by decide) ?_
                refine pr_icmp_gt (tgt := 73) dX12_order_61 rfl (wr_eq (by decide) (by decide)) (by decide) (fun c_22 => ?_) (fun c_22 => ?_)
                · have h := pm_pos c_22 h
                  refine pr_aload_n dX12_order_73 rfl ?_
                  refine pr_bipush dX12_order_74 (by decide) ?_
                  obtain ⟨q23, e24, h⟩ := pm_bs h
                  refine pr_callV (As := [pv_i (-6)]) (S := []) (t := 0) dX12_order_76 mk_X12_103 lm_0 (ci := 12) (q := (RX12, TX12, 36)) rfl rfl rfl rfl (by decide) (by decide) (by decide) (Or.inl rfl) (tmX12_refuse e24) ?_
                  have h := Option.some.inj h
                  subst h
                  exact pr_iret dX12_order_79 rfl
                · have h := pm_ng c_22 h
                  refine pr_aload_n dX12_order_64 rfl ?_
                  refine pr_getI dX12_order_65 lk_X12_154 lm_0 rfl ?_
                  refine pr_bipush dX12_order_68 (by decide) ?_
                  refine pr_icmp_ne (tgt := 80) dX12_order_70 rfl (wr_eq (by decide) (by decide)) (by decide) (fun c_25 => ?_) (fun c_25 => ?_)
                  · have h := pm_ng c_25 h
                    refine pr_aload_n dX12_order_80 rfl ?_
                    refine pr_getR dX12_order_81 lk_X12_59 lm_0 rfl ?_
                    refine pr_aload_n dX12_order_84 rfl ?_
                    refine pr_getI dX12_order_85 lk_X12_154 lm_0 rfl ?_
                    refine pr_iload_n dX12_order_88 rfl ?_
                    obtain ⟨g_26, h⟩ := pm_gs h
                    refine pr_iast dX12_order_89 lm_16 rfl g_26 ?_
                    refine pr_aload_n dX12_order_90 rfl ?_
                    refine pr_getR dX12_order_91 lk_X12_62 lm_0 rfl ?_
                    refine pr_aload_n dX12_order_94 rfl ?_
                    refine pr_getI dX12_order_95 lk_X12_154 lm_0 rfl ?_
                    refine pr_iload_n dX12_order_98 rfl ?_
                    obtain ⟨g_27, h⟩ := pm_gs h
                    refine pr_iast dX12_order_99 lm_17 rfl g_27 ?_
                    refine pr_aload_n dX12_order_100 rfl ?_
                    refine pr_getR dX12_order_101 lk_X12_65 lm_0 rfl ?_
                    refine pr_aload_n dX12_order_104 rfl ?_
                    refine pr_getI dX12_order_105 lk_X12_154 lm_0 rfl ?_
                    refine pr_iload_n dX12_order_108 rfl ?_
                    obtain ⟨g_28, h⟩ := pm_gs h
                    refine pr_iast dX12_order_109 lm_18 rfl g_28 ?_
                    refine pr_aload_n dX12_order_110 rfl ?_
                    refine pr_getR dX12_order_111 lk_X12_68 lm_0 rfl ?_
                    refine pr_aload_n dX12_order_114 rfl ?_
                    refine pr_getI dX12_order_115 lk_X12_154 lm_0 rfl ?_
                    refine pr_iload dX12_order_118 rfl ?_
                    obtain ⟨g_29, h⟩ := pm_gs h
                    refine pr_iast dX12_order_120 lm_19 rfl g_29 ?_
                    refine pr_aload_n dX12_order_121 rfl ?_
                    refine pr_getR dX12_order_122 lk_X12_71 lm_0 rfl ?_
                    refine pr_aload_n dX12_order_125 rfl ?_
                    refine pr_getI dX12_order_126 lk_X12_154 lm_0 rfl ?_
                    refine pr_iload dX12_order_129 rfl ?_
                    obtain ⟨g_30, h⟩ := pm_gs h
                    refine pr_iast dX12_order_131 lm_20 rfl g_30 ?_
                    refine pr_aload_n dX12_order_132 rfl ?_
                    refine pr_getR dX12_order_133 lk_X12_74 lm_0 rfl ?_
                    refine pr_aload_n dX12_order_136 rfl ?_
                    refine pr_getI dX12_order_137 lk_X12_154 lm_0 rfl ?_
                    refine pr_bipush dX12_order_140 (by decide) ?_
                    obtain ⟨g_31, h⟩ := pm_gs h
                    refine pr_iast dX12_order_142 lm_21 rfl g_31 ?_
                    refine pr_aload_n dX12_order_143 rfl ?_
                    refine pr_dup dX12_order_144 rfl ?_
                    refine pr_getI dX12_order_145 lk_X12_154 lm_0 rfl ?_
                    refine pr_iconst dX12_order_148 ?_
                    refine pr_iadd dX12_order_149 ?_
                    refine pr_putI dX12_order_150 lp_X12_154 lm_0 rfl ?_
                    refine pr_aload_n dX12_order_153 rfl ?_
                    refine pr_getI dX12_order_154 lk_X12_154 lm_0 rfl ?_
                    refine pr_iconst dX12_order_157 ?_
                    refine pr_isub dX12_order_158 ?_
                    have h := Option.some.inj h
                    subst h
                    exact pr_iret dX12_order_159 rfl
                  · have h := pm_pos c_25 h
                    refine pr_aload_n dX12_order_73 rfl ?_
                    refine pr_bipush dX12_order_74 (by decide) ?_
                    obtain ⟨q32, e33, h⟩ := pm_bs h
                    refine pr_callV (As := [pv_i (-6)]) (S := []) (t := 0) dX12_order_76 mk_X12_103 lm_0 (ci := 12) (q := (RX12, TX12, 36)) rfl rfl rfl rfl (by decide) (by decide) (by decide) (Or.inl rfl) (tmX12_refuse e33) ?_
                    have h := Option.some.inj h
                    subst h
                    exact pr_iret dX12_order_79 rfl
          · have h := pm_ng c_15 h
            refine pr_aload_n dX12_order_36 rfl ?_
            refine pr_bipush dX12_order_37 (by decide) ?_
            obtain ⟨q34, e35, h⟩ := pm_bs h
            refine pr_callV (As := [pv_i (-4)]) (S := []) (t := 0) dX12_order_39 mk_X12_103 lm_0 (ci := 12) (q := (RX12, TX12, 36)) rfl rfl rfl rfl (by decide) (by decide) (by decide) (Or.inl rfl) (tmX12_refuse e35) ?_
            have h := Option.some.inj h
            subst h
            exact pr_iret dX12_order_42 rfl
    · have h := pm_pos c_8 h
      refine pr_aload_n dX12_order_15 rfl ?_
      refine pr_iconst dX12_order_16 ?_
      obtain ⟨q36, e37, h⟩ := pm_bs h
      refine pr_callV (As := [pv_i (-1)]) (S := []) (t := 0) dX12_order_17 mk_X12_103 lm_0 (ci := 12) (q := (RX12, TX12, 36)) rfl rfl rfl rfl (by decide) (by decide) (by decide) (Or.inl rfl) (tmX12_refuse e37) ?_
      have h := Option.some.inj h
      subst h
      exact pr_iret dX12_order_20 rfl
def fX12_today (σ : pm_M) : Option (Int) :=
  some (Int.tdiv (wr (σ 25 (Int.toNat 751))) 24)
set_option maxHeartbeats 4000000 in
set_option maxRecDepth 100000 in
theorem tmX12_today {σ : pm_M} {ρ : Int} (h : fX12_today σ = some ρ) : pm_C mX12_today 0 0 [pv_r 0] LAYM σ (some (pv_i ρ)) LAYM σ := by
  refine pm_C.of rfl rfl (by decide) ?_
  show pm_J mX12_today 0 0 LAYM (some (pv_i ρ)) LAYM σ 0 [some (pv_r 0)] [] LAYM σ
  unfold fX12_today at h
  refine pr_aload_n dX12_today_0 rfl ?_
  refine pr_getR dX12_today_1 lk_X12_86 lm_0 rfl ?_
  refine pr_sipush dX12_today_4 (by decide) ?_
  refine pr_iald dX12_today_7 lm_25 (wr_eq (by decide) (by decide)) ⟨by decide, by decide⟩ ?_
  refine pr_bipush dX12_today_8 (by decide) ?_
  refine pr_idiv dX12_today_10 rfl (wr_eq (by decide) (by decide)) (by decide) ?_
  have h := Option.some.inj h
  subst h
  exact pr_iret dX12_today_11 rfl
def jnX12_fill_144 (w1 : Int) (u0 : Int) (u1 : Int) (σ : pm_M) : Option (Int × pm_M) :=
  pm_g (0 ≤ (wr w1) ∧ (wr w1) < 12) (pm_g (0 ≤ (wr (σ 17 (Int.toNat (wr w1)))) ∧ (wr (σ 17 (Int.toNat (wr w1)))) < 9) (some ((u1 * (u0 - (σ 7 (Int.toNat (wr (σ 17 (Int.toNat (wr w1)))))))), (pm_up σ 0 18 ((σ 0 18) + (u1 * (u0 - (σ 7 (Int.toNat (wr (σ 17 (Int.toNat (wr w1)))))))))))))
set_option maxHeartbeats 4000000 in
set_option maxRecDepth 100000 in
theorem tjX12_fill_144 {lay0 : List pm_S} {w1 : Int} {u0 : Int} {u1 : Int} {σ : pm_M} {ρ : Int × pm_M} (h : jnX12_fill_144 w1 u0 u1 σ = some ρ) : pm_J mX12_fill 1 21 lay0 (some (pv_i ρ.1)) LAYM ρ.2 144 [some (pv_r 0), some (pv_i w1), none, none] [pv_i u0, pv_i u1] LAYM σ := by
  unfold jnX12_fill_144 at h
  refine pr_aload_n dX12_fill_144 rfl ?_
  refine pr_getR dX12_fill_145 lk_X12_28 lm_0 rfl ?_
  refine pr_aload_n dX12_fill_148 rfl ?_
  refine pr_getR dX12_fill_149 lk_X12_62 lm_0 rfl ?_
  refine pr_iload_n dX12_fill_152 rfl ?_
  obtain ⟨g_23, h⟩ := pm_gs h
  refine pr_iald dX12_fill_153 lm_17 rfl g_23 ?_
  obtain ⟨g_24, h⟩ := pm_gs h
  refine pr_iald dX12_fill_154 lm_7 rfl g_24 ?_
  refine pr_isub dX12_fill_155 ?_
  refine pr_imul dX12_fill_156 ?_
  refine pr_istore_n dX12_fill_157 (by decide) rfl ?_
  refine pr_aload_n dX12_fill_158 rfl ?_
  refine pr_dup dX12_fill_159 rfl ?_
  refine pr_getI dX12_fill_160 lk_X12_162 lm_0 rfl ?_
  refine pr_iload_n dX12_fill_163 rfl ?_
  refine pr_iadd dX12_fill_164 ?_
  refine pr_putI dX12_fill_165 lp_X12_162 lm_0 rfl ?_
  refine pr_iload_n dX12_fill_168 rfl ?_
  have h := Option.some.inj h
  subst h
  exact pr_iret dX12_fill_169 rfl
def fX12_fill (x1 : Int) (σ : pm_M) : Option (Int × pm_M) :=
  (fX12_isIn x1 (σ 0 17)).bind fun q1 => if (wr q1) = 0 then ((fX12_refuse (-1) σ).bind fun q28 => some ((1000000000 - q28.1), q28.2)) else (pm_g (0 ≤ (wr x1) ∧ (wr x1) < 12) (pm_g (0 ≤ (wr x1) ∧ (wr x1) < 12) (pm_g (0 ≤ (wr x1) ∧ (wr x1) < 12) (if 0 ≤ (wr (σ 21 (Int.toNat (wr x1)))) then ((fX12_refuse (-3) σ).bind fun q8 => some ((1000000000 - q8.1), q8.2)) else (pm_g (0 ≤ (wr ((9 * (σ 16 (Int.toNat (wr x1)))) + (σ 17 (Int.toNat (wr x1))))) ∧ (wr ((9 * (σ 16 (Int.toNat (wr x1)))) + (σ 17 (Int.toNat (wr x1))))) < 81) (pm_g (0 ≤ (wr x1) ∧ (wr x1) < 12) (if (wr (480 * (σ 18 (Int.toNat (wr x1))))) ≤ (wr (σ 8 (Int.toNat (wr ((9 * (σ 16 (Int.toNat (wr x1)))) + (σ 17 (Int.toNat (wr x1)))))))) then (pm_g (0 ≤ (wr ((9 * (σ 16 (Int.toNat (wr x1)))) + (σ 17 (Int.toNat (wr x1))))) ∧ (wr ((9 * (σ 16 (Int.toNat (wr x1)))) + (σ 17 (Int.toNat (wr x1))))) < 81) (pm_g (0 ≤ (wr x1) ∧ (wr x1) < 12) (pm_g (0 ≤ (wr ((9 * (σ 16 (Int.toNat (wr x1)))) + (σ 17 (Int.toNat (wr x1))))) ∧ (wr ((9 * (σ 16 (Int.toNat (wr x1)))) + (σ 17 (Int.toNat (wr x1))))) < 81) (pm_g (0 ≤ (wr x1) ∧ (wr x1) < 12) (pm_g (0 ≤ (wr x1) ∧ (wr x1) < 12) ((fX12_today (pm_up (pm_up σ 8 (Int.toNat (wr ((9 * (σ 16 (Int.toNat (wr x1)))) + (σ 17 (Int.toNat (wr x1)))))) ((σ 8 (Int.toNat (wr ((9 * (σ 16 (Int.toNat (wr x1)))) + (σ 17 (Int.toNat (wr x1))))))) - (480 * (σ 18 (Int.toNat (wr x1)))))) 21 (Int.toNat (wr x1)) ((pm_up σ 8 (Int.toNat (wr ((9 * (σ 16 (Int.toNat (wr x1)))) + (σ 17 (Int.toNat (wr x1)))))) ((σ 8 (Int.toNat (wr ((9 * (σ 16 (Int.toNat (wr x1)))) + (σ 17 (Int.toNat (wr x1))))))) - (480 * (σ 18 (Int.toNat (wr x1)))))) 25 (Int.toNat 751)))).bind fun q18 => pm_g (0 ≤ (wr x1) ∧ (wr x1) < 12) (if (wr q18) ≤ (wr ((pm_up (pm_up σ 8 (Int.toNat (wr ((9 * (σ 16 (Int.toNat (wr x1)))) + (σ 17 (Int.toNat (wr x1)))))) ((σ 8 (Int.toNat (wr ((9 * (σ 16 (Int.toNat (wr x1)))) + (σ 17 (Int.toNat (wr x1))))))) - (480 * (σ 18 (Int.toNat (wr x1)))))) 21 (Int.toNat (wr x1)) ((pm_up σ 8 (Int.toNat (wr ((9 * (σ 16 (Int.toNat (wr x1)))) + (σ 17 (Int.toNat (wr x1)))))) ((σ 8 (Int.toNat (wr ((9 * (σ 16 (Int.toNat (wr x1)))) + (σ 17 (Int.toNat (wr x1))))))) - (480 * (σ 18 (Int.toNat (wr x1)))))) 25 (Int.toNat 751))) 19 (Int.toNat (wr x1)))) then (pm_g (0 ≤ (wr x1) ∧ (wr x1) < 12) (jnX12_fill_144 x1 ((pm_up (pm_up σ 8 (Int.toNat (wr ((9 * (σ 16 (Int.toNat (wr x1)))) + (σ 17 (Int.toNat (wr x1)))))) ((σ 8 (Int.toNat (wr ((9 * (σ 16 (Int.toNat (wr x1)))) + (σ 17 (Int.toNat (wr x1))))))) - (480 * (σ 18 (Int.toNat (wr x1)))))) 21 (Int.toNat (wr x1)) ((pm_up σ 8 (Int.toNat (wr ((9 * (σ 16 (Int.toNat (wr x1)))) + (σ 17 (Int.toNat (wr x1)))))) ((σ 8 (Int.toNat (wr ((9 * (σ 16 (Int.toNat (wr x1)))) + (σ 17 (Int.toNat (wr x1))))))) - (480 * (σ 18 (Int.toNat (wr x1)))))) 25 (Int.toNat 751))) 20 (Int.toNat (wr x1))) ((pm_up (pm_up σ 8 (Int.toNat (wr ((9 * (σ 16 (Int.toNat (wr x1)))) + (σ 17 (Int.toNat (wr x1)))))) ((σ 8 (Int.toNat (wr ((9 * (σ 16 (Int.toNat (wr x1)))) + (σ 17 (Int.toNat (wr x1))))))) - (480 * (σ 18 (Int.toNat (wr x1)))))) 21 (Int.toNat (wr x1)) ((pm_up σ 8 (Int.toNat (wr ((9 * (σ 16 (Int.toNat (wr x1)))) + (σ 17 (Int.toNat (wr x1)))))) ((σ 8 (Int.toNat (wr ((9 * (σ 16 (Int.toNat (wr x1)))) + (σ 17 (Int.toNat (wr x1))))))) - (480 * (σ 18 (Int.toNat (wr x1)))))) 25 (Int.toNat 751))) 18 (Int.toNat (wr x1))) (pm_up (pm_up σ 8 (Int.toNat (wr ((9 * (σ 16 (Int.toNat (wr x1)))) + (σ 17 (Int.toNat (wr x1)))))) ((σ 8 (Int.toNat (wr ((9 * (σ 16 (Int.toNat (wr x1)))) + (σ 17 (Int.toNat (wr x1))))))) - (480 * (σ 18 (Int.toNat (wr x1)))))) 21 (Int.toNat (wr x1)) ((pm_up σ 8 (Int.toNat (wr ((9 * (σ 16 (Int.toNat (wr x1)))) + (σ 17 (Int.toNat (wr x1)))))) ((σ 8 (Int.toNat (wr ((9 * (σ 16 (Int.toNat (wr x1)))) + (σ 17 (Int.toNat (wr x1))))))) - (480 * (σ 18 (Int.toNat (wr x1)))))) 25 (Int.toNat 751))))) else (pm_g (0 ≤ (wr x1) ∧ (wr x1) < 12) (jnX12_fill_144 x1 (Int.tdiv (wr ((pm_up (pm_up σ 8 (Int.toNat (wr ((9 * (σ 16 (Int.toNat (wr x1)))) + (σ 17 (Int.toNat (wr x1)))))) ((σ 8 (Int.toNat (wr ((9 * (σ 16 (Int.toNat (wr x1)))) + (σ 17 (Int.toNat (wr x1))))))) - (480 * (σ 18 (Int.toNat (wr x1)))))) 21 (Int.toNat (wr x1)) ((pm_up σ 8 (Int.toNat (wr ((9 * (σ 16 (Int.toNat (wr x1)))) + (σ 17 (Int.toNat (wr x1)))))) ((σ 8 (Int.toNat (wr ((9 * (σ 16 (Int.toNat (wr x1)))) + (σ 17 (Int.toNat (wr x1))))))) - (480 * (σ 18 (Int.toNat (wr x1)))))) 25 (Int.toNat 751))) 20 (Int.toNat (wr x1)))) 2) ((pm_up (pm_up σ 8 (Int.toNat (wr ((9 * (σ 16 (Int.toNat (wr x1)))) + (σ 17 (Int.toNat (wr x1)))))) ((σ 8 (Int.toNat (wr ((9 * (σ 16 (Int.toNat (wr x1)))) + (σ 17 (Int.toNat (wr x1))))))) - (480 * (σ 18 (Int.toNat (wr x1)))))) 21 (Int.toNat (wr x1)) ((pm_up σ 8 (Int.toNat (wr ((9 * (σ 16 (Int.toNat (wr x1)))) + (σ 17 (Int.toNat (wr x1)))))) ((σ 8 (Int.toNat (wr ((9 * (σ 16 (Int.toNat (wr x1)))) + (σ 17 (Int.toNat (wr x1))))))) - (480 * (σ 18 (Int.toNat (wr x1)))))) 25 (Int.toNat 751))) 18 (Int.toNat (wr x1))) (pm_up (pm_up σ 8 (Int.toNat (wr ((9 * (σ 16 (Int.toNat (wr x1)))) + (σ 17 (Int.toNat (wr x1)))))) ((σ 8 (Int.toNat (wr ((9 * (σ 16 (Int.toNat (wr x1)))) + (σ 17 (Int.toNat (wr x1))))))) - (480 * (σ 18 (Int.toNat (wr x1)))))) 21 (Int.toNat (wr x1)) ((pm_up σ 8 (Int.toNat (wr ((9 * (σ 16 (Int.toNat (wr x1)))) + (σ 17 (Int.toNat (wr x1)))))) ((σ 8 (Int.toNat (wr ((9 * (σ 16 (Int.toNat (wr x1)))) + (σ 17 (Int.toNat (wr x1))))))) - (480 * (σ 18 (Int.toNat (wr x1)))))) 25 (Int.toNat 751)))))))))))) else ((fX12_refuse (-3) σ).bind fun q26 => some ((1000000000 - q26.1), q26.2)))))))))
set_option maxHeartbeats 4000000 in
set_option maxRecDepth 100000 in
theorem tmX12_fill {x1 : Int} {σ : pm_M} {ρ : Int × pm_M} (h : fX12_fill x1 σ = some ρ) : pm_C mX12_fill 1 21 [pv_r 0, pv_i x1] LAYM σ (some (pv_i ρ.1)) LAYM ρ.2 := by
  refine pm_C.of rfl rfl (by decide) ?_
  show pm_J mX12_fill 1 21 LAYM (some (pv_i ρ.1)) LAYM ρ.2 0 [some (pv_r 0), some (pv_i x1), none, none] [] LAYM σ
  unfold fX12_fill at h
  refine pr_iload_n dX12_fill_0 rfl ?_
  refine pr_aload_n dX12_fill_1 rfl ?_
  refine pr_getI dX12_fill_2 lk_X12_154 lm_0 rfl ?_
  obtain ⟨q1, e2, h⟩ := pm_bs h
  refine pr_callS (av := [pv_i x1, pv_i (σ 0 17)]) (S := []) dX12_fill_5 mk_X12_95 rfl rfl (by decide) (by decide) (by decide) (Or.inl rfl) (tmX12_isIn e2) ?_
  refine pr_if_ne (tgt := 20) dX12_fill_8 rfl (by decide) (fun c_3 => ?_) (fun c_3 => ?_)
  · have h := pm_ng c_3 h
    refine pr_bipush dX12_fill_20 (by decide) ?_
    refine pr_aload_n dX12_fill_22 rfl ?_
    refine pr_getR dX12_fill_23 lk_X12_59 lm_0 rfl ?_
    refine pr_iload_n dX12_fill_26 rfl ?_
    obtain ⟨g_4, h⟩ := pm_gs h
    refine pr_iald dX12_fill_27 lm_16 rfl g_4 ?_
    refine pr_imul dX12_fill_28 ?_
    refine pr_aload_n dX12_fill_29 rfl ?_
    refine pr_getR dX12_fill_30 lk_X12_62 lm_0 rfl ?_
    refine pr_iload_n dX12_fill_33 rfl ?_
    obtain ⟨g_5, h⟩ := pm_gs h
    refine pr_iald dX12_fill_34 lm_17 rfl g_5 ?_
    refine pr_iadd dX12_fill_35 ?_
    refine pr_istore_n dX12_fill_36 (by decide) rfl ?_
    refine pr_aload_n dX12_fill_37 rfl ?_
    refine pr_getR dX12_fill_38 lk_X12_74 lm_0 rfl ?_
    refine pr_iload_n dX12_fill_41 rfl ?_
    obtain ⟨g_6, h⟩ := pm_gs h
    refine pr_iald dX12_fill_42 lm_21 rfl g_6 ?_
    refine pr_if_ge (tgt := 65) dX12_fill_43 rfl (by decide) (fun c_7 => ?_) (fun c_7 => ?_)
    · have h := pm_pos c_7 h
      refine pr_ldc dX12_fill_65 lkc_X12_157 ?_
      refine pr_aload_n dX12_fill_67 rfl ?_
      refine pr_bipush dX12_fill_68 (by decide) ?_
      obtain ⟨q8, e9, h⟩ := pm_bs h
      refine pr_callV (As := [pv_i (-3)]) (S := [pv_i 1000000000]) (t := 0) dX12_fill_70 mk_X12_103 lm_0 (ci := 12) (q := (RX12, TX12, 36)) rfl rfl rfl rfl (by decide) (by decide) (by decide) (Or.inl rfl) (tmX12_refuse e9) ?_
      refine pr_isub dX12_fill_73 ?_
      have h := Option.some.inj h
      subst h
      exact pr_iret dX12_fill_74 rfl
    · have h := pm_ng c_7 h
      refine pr_aload_n dX12_fill_46 rfl ?_
      refine pr_getR dX12_fill_47 lk_X12_31 lm_0 rfl ?_
      refine pr_iload_n dX12_fill_50 rfl ?_
      obtain ⟨g_10, h⟩ := pm_gs h
      refine pr_iald dX12_fill_51 lm_8 rfl g_10 ?_
      refine pr_sipush dX12_fill_52 (by decide) ?_
      refine pr_aload_n dX12_fill_55 rfl ?_
      refine pr_getR dX12_fill_56 lk_X12_65 lm_0 rfl ?_
      refine pr_iload_n dX12_fill_59 rfl ?_
      obtain ⟨g_11, h⟩ := pm_gs h
      refine pr_iald dX12_fill_60 lm_18 rfl g_11 ?_
      refine pr_imul dX12_fill_61 ?_
      refine pr_icmp_ge (tgt := 75) dX12_fill_62 rfl rfl (by decide) (fun c_12 => ?_) (fun c_12 => ?_)
      · have h := pm_pos c_12 h
        refine pr_aload_n dX12_fill_75 rfl ?_
        refine pr_getR dX12_fill_76 lk_X12_31 lm_0 rfl ?_
        refine pr_iload_n dX12_fill_79 rfl ?_
        refine pr_dup2 dX12_fill_80 rfl rfl ?_
        obtain ⟨g_13, h⟩ := pm_gs h
        refine pr_iald dX12_fill_81 lm_8 rfl g_13 ?_
        refine pr_sipush dX12_fill_82 (by decide) ?_
        refine pr_aload_n dX12_fill_85 rfl ?_
        refine pr_getR dX12_fill_86 lk_X12_65 lm_0 rfl ?_
        refine pr_iload_n dX12_fill_89 rfl ?_
        obtain ⟨g_14, h⟩ := pm_gs h
        refine pr_iald dX12_fill_90 lm_18 rfl g_14 ?_
        refine pr_imul dX12_fill_91 ?_
        refine pr_isub dX12_fill_92 ?_
        obtain ⟨g_15, h⟩ := pm_gs h
        refine pr_iast dX12_fill_93 lm_8 rfl g_15 ?_
        refine pr_aload_n dX12_fill_94 rfl ?_
        refine pr_getR dX12_fill_95 lk_X12_74 lm_0 rfl ?_
        refine pr_iload_n dX12_fill_98 rfl ?_
        refine pr_aload_n dX12_fill_99 rfl ?_
        refine pr_getR dX12_fill_100 lk_X12_86 lm_0 rfl ?_
        refine pr_sipush dX12_fill_103 (by decide) ?_
        refine pr_iald dX12_fill_106 lm_25 (wr_eq (by decide) (by decide)) ⟨by decide, by decide⟩ ?_
        obtain ⟨g_16, h⟩ := pm_gs h
        refine pr_iast dX12_fill_107 lm_21 rfl g_16 ?_
        refine pr_aload_n dX12_fill_108 rfl ?_
        refine pr_getR dX12_fill_109 lk_X12_65 lm_0 rfl ?_
        refine pr_iload_n dX12_fill_112 rfl ?_
        obtain ⟨g_17, h⟩ := pm_gs h
        refine pr_iald dX12_fill_113 lm_18 rfl g_17 ?_
        refine pr_aload_n dX12_fill_114 rfl ?_
        obtain ⟨q18, e19, h⟩ := pm_bs h
        refine pr_callV (As := []) (S := [pv_i ((pm_up (pm_up σ 8 (Int.toNat (wr ((9 * (σ 16 (Int.toNat (wr x1)))) + (σ 17 (Int.toNat (wr x1)))))) ((σ 8 (Int.toNat (wr ((9 * (σ 16 (Int.toNat (wr x1)))) + (σ 17 (Int.toNat (wr x1))))))) - (480 * (σ 18 (Int.toNat (wr x1)))))) 21 (Int.toNat (wr x1)) ((pm_up σ 8 (Int.toNat (wr ((9 * (σ 16 (Int.toNat (wr x1)))) + (σ 17 (Int.toNat (wr x1)))))) ((σ 8 (Int.toNat (wr ((9 * (σ 16 (Int.toNat (wr x1)))) + (σ 17 (Int.toNat (wr x1))))))) - (480 * (σ 18 (Int.toNat (wr x1)))))) 25 (Int.toNat 751))) 18 (Int.toNat (wr x1)))]) (t := 0) dX12_fill_115 mk_X12_158 lm_0 (ci := 12) (q := (RX12, TX12, 36)) rfl rfl rfl rfl (by decide) (by decide) (by decide) (Or.inl rfl) (tmX12_today e19) ?_
        refine pr_aload_n dX12_fill_118 rfl ?_
        refine pr_getR dX12_fill_119 lk_X12_68 lm_0 rfl ?_
        refine pr_iload_n dX12_fill_122 rfl ?_
        obtain ⟨g_20, h⟩ := pm_gs h
        refine pr_iald dX12_fill_123 lm_19 rfl g_20 ?_
        refine pr_icmp_le (tgt := 138) dX12_fill_124 rfl rfl (by decide) (fun c_21 => ?_) (fun c_21 => ?_)
        · have h := pm_pos c_21 h
          refine pr_aload_n dX12_fill_138 rfl ?_
          refine pr_getR dX12_fill_139 lk_X12_71 lm_0 rfl ?_
          refine pr_iload_n dX12_fill_142 rfl ?_
          obtain ⟨g_22, h⟩ := pm_gs h
          refine pr_iald dX12_fill_143 lm_20 rfl g_22 ?_
          refine pr_weak (L2 := [some (pv_r 0), some (pv_i x1), none, none]) ⟨Or.inr rfl, Or.inr rfl, Or.inl rfl, Or.inl rfl, trivial⟩ ?_
          exact tjX12_fill_144 h
        · have h := pm_ng c_21 h
          refine pr_aload_n dX12_fill_127 rfl ?_
          refine pr_getR dX12_fill_128 lk_X12_71 lm_0 rfl ?_
          refine pr_iload_n dX12_fill_131 rfl ?_
          obtain ⟨g_25, h⟩ := pm_gs h
          refine pr_iald dX12_fill_132 lm_20 rfl g_25 ?_
          refine pr_iconst dX12_fill_133 ?_
          refine pr_idiv dX12_fill_134 rfl (wr_eq (by decide) (by decide)) (by decide) ?_
          refine pr_goto (tgt := 144) dX12_fill_135 (by decide) ?_
          refine pr_weak (L2 := [some (pv_r 0), some (pv_i x1), none, none]) ⟨Or.inr rfl, Or.inr rfl, Or.inl rfl, Or.inl rfl, trivial⟩ ?_
          exact tjX12_fill_144 h
      · have h := pm_ng c_12 h
        refine pr_ldc dX12_fill_65 lkc_X12_157 ?_
        refine pr_aload_n dX12_fill_67 rfl ?_
        refine pr_bipush dX12_fill_68 (by decide) ?_
        obtain ⟨q26, e27, h⟩ := pm_bs h
        refine pr_callV (As := [pv_i (-3)]) (S := [pv_i 1000000000]) (t := 0) dX12_fill_70 mk_X12_103 lm_0 (ci := 12) (q := (RX12, TX12, 36)) rfl rfl rfl rfl (by decide) (by decide) (by decide) (Or.inl rfl) (tmX12_refuse e27) ?_
        refine pr_isub dX12_fill_73 ?_
        have h := Option.some.inj h
        subst h
        exact pr_iret dX12_fill_74 rfl
  · have h := pm_pos c_3 h
    refine pr_ldc dX12_fill_11 lkc_X12_157 ?_
    refine pr_aload_n dX12_fill_13 rfl ?_
    refine pr_iconst dX12_fill_14 ?_
    obtain ⟨q28, e29, h⟩ := pm_bs h
    refine pr_callV (As := [pv_i (-1)]) (S := [pv_i 1000000000]) (t := 0) dX12_fill_15 mk_X12_103 lm_0 (ci := 12) (q := (RX12, TX12, 36)) rfl rfl rfl rfl (by decide) (by decide) (by decide) (Or.inl rfl) (tmX12_refuse e29) ?_
    refine pr_isub dX12_fill_18 ?_
    have h := Option.some.inj h
    subst h
    exact pr_iret dX12_fill_19 rfl
def bdX12_bests_27 (y1 : Int) (y2 : Int) (y3 : Int) (z4 : Int) (σ : pm_M) : Option ((Int × pm_M) ⊕ (Int × pm_M)) :=
  if (wr z4) ≤ 0 then (some (.inl (z4, σ))) else (pm_g (0 ≤ (wr (z4 - 1)) ∧ (wr (z4 - 1)) < 12) (pm_g (0 ≤ (wr (σ 27 (Int.toNat (wr (z4 - 1))))) ∧ (wr (σ 27 (Int.toNat (wr (z4 - 1))))) < 12) (pm_g (0 ≤ (wr y3) ∧ (wr y3) < 12) (if (wr (σ 19 (Int.toNat (wr (σ 27 (Int.toNat (wr (z4 - 1)))))))) ≤ (wr (σ 19 (Int.toNat (wr y3)))) then (some (.inl (z4, σ))) else (pm_g (0 ≤ (wr (z4 - 1)) ∧ (wr (z4 - 1)) < 12) (pm_g (0 ≤ (wr z4) ∧ (wr z4) < 12) (some (.inr ((z4 + (-1)), (pm_up σ 27 (Int.toNat (wr z4)) (σ 27 (Int.toNat (wr (z4 - 1))))))))))))))
set_option maxHeartbeats 4000000 in
set_option maxRecDepth 100000 in
theorem tbX12_bests_27 {lay0 lay' : List pm_S} {r : Option pm_V} {σ' : pm_M} (y1 : Int) (y2 : Int) (y3 : Int) : ∀ (a : Int × pm_M) (e : (Int × pm_M) ⊕ (Int × pm_M)), (fun a => bdX12_bests_27 y1 y2 y3 a.1 a.2) a = some e → (∀ a, e = .inr a → (fun a => pm_J mX12_bests 1 22 lay0 r lay' σ' 27 [some (pv_r 0), some (pv_i y1), some (pv_i y2), some (pv_i y3), some (pv_i a.1), none, none, none, none, none, none, none, none, none] [] LAYM a.2) a) → (∀ a, e = .inl a → (fun a => pm_J mX12_bests 1 22 lay0 r lay' σ' 77 [some (pv_r 0), some (pv_i y1), some (pv_i y2), some (pv_i y3), some (pv_i a.1), none, none, none, none, none, none, none, none, none] [] LAYM a.2) a) → (fun a => pm_J mX12_bests 1 22 lay0 r lay' σ' 27 [some (pv_r 0), some (pv_i y1), some (pv_i y2), some (pv_i y3), some (pv_i a.1), none, none, none, none, none, none, none, none, none] [] LAYM a.2) a := by
  intro a e h hc hx
  obtain ⟨z4, σ⟩ := a
  have h : bdX12_bests_27 y1 y2 y3 z4 σ = some e := h
  unfold bdX12_bests_27 at h
  show pm_J mX12_bests 1 22 lay0 r lay' σ' 27 [some (pv_r 0), some (pv_i y1), some (pv_i y2), some (pv_i y3), some (pv_i z4), none, none, none, none, none, none, none, none, none] [] LAYM σ
  refine pr_iload dX12_bests_27 rfl ?_
  refine pr_if_le (tgt := 77) dX12_bests_29 rfl (by decide) (fun c_4 => ?_) (fun c_4 => ?_)
  · have h := pm_pos c_4 h
    refine pr_weak (L2 := [some (pv_r 0), some (pv_i y1), some (pv_i y2), some (pv_i y3), some (pv_i z4), none, none, none, none, none, none, none, none, none]) ⟨Or.inr rfl, Or.inr rfl, Or.inr rfl, Or.inr rfl, Or.inr rfl, Or.inl rfl, Or.inl rfl, Or.inl rfl, Or.inl rfl, Or.inl rfl, Or.inl rfl, Or.inl rfl, Or.inl rfl, Or.inl rfl, trivial⟩ ?_
    exact hx _ (Option.some.inj h).symm
  · have h := pm_ng c_4 h
    refine pr_aload_n dX12_bests_32 rfl ?_
    refine pr_getR dX12_bests_33 lk_X12_68 lm_0 rfl ?_
    refine pr_aload_n dX12_bests_36 rfl ?_
    refine pr_getR dX12_bests_37 lk_X12_92 lm_0 rfl ?_
    refine pr_iload dX12_bests_40 rfl ?_
    refine pr_iconst dX12_bests_42 ?_
    refine pr_isub dX12_bests_43 ?_
    obtain ⟨g_5, h⟩ := pm_gs h
    refine pr_iald dX12_bests_44 lm_27 rfl g_5 ?_
    obtain ⟨g_6, h⟩ := pm_gs h
    refine pr_iald dX12_bests_45 lm_19 rfl g_6 ?_
    refine pr_aload_n dX12_bests_46 rfl ?_
    refine pr_getR dX12_bests_47 lk_X12_68 lm_0 rfl ?_
    refine pr_iload_n dX12_bests_50 rfl ?_
    obtain ⟨g_7, h⟩ := pm_gs h
    refine pr_iald dX12_bests_51 lm_19 rfl g_7 ?_
    refine pr_icmp_le (tgt := 77) dX12_bests_52 rfl rfl (by decide) (fun c_8 => ?_) (fun c_8 => ?_)
    · have h := pm_pos c_8 h
      refine pr_weak (L2 := [some (pv_r 0), some (pv_i y1), some (pv_i y2), some (pv_i y3), some (pv_i z4), none, none, none, none, none, none, none, none, none]) ⟨Or.inr rfl, Or.inr rfl, Or.inr rfl, Or.inr rfl, Or.inr rfl, Or.inl rfl, Or.inl rfl, Or.inl rfl, Or.inl rfl, Or.inl rfl, Or.inl rfl, Or.inl rfl, Or.inl rfl, Or.inl rfl, trivial⟩ ?_
      exact hx _ (Option.some.inj h).symm
    · have h := pm_ng c_8 h
      refine pr_aload_n dX12_bests_55 rfl ?_
      refine pr_getR dX12_bests_56 lk_X12_92 lm_0 rfl ?_
      refine pr_iload dX12_bests_59 rfl ?_
      refine pr_aload_n dX12_bests_61 rfl ?_
      refine pr_getR dX12_bests_62 lk_X12_92 lm_0 rfl ?_
      refine pr_iload dX12_bests_65 rfl ?_
      refine pr_iconst dX12_bests_67 ?_
      refine pr_isub dX12_bests_68 ?_
      obtain ⟨g_9, h⟩ := pm_gs h
      refine pr_iald dX12_bests_69 lm_27 rfl g_9 ?_
      obtain ⟨g_10, h⟩ := pm_gs h
      refine pr_iast dX12_bests_70 lm_27 rfl g_10 ?_
      refine pr_iinc dX12_bests_71 rfl (by decide) rfl ?_
      refine pr_goto (tgt := 27) dX12_bests_74 (by decide) ?_
      refine pr_weak (L2 := [some (pv_r 0), some (pv_i y1), some (pv_i y2), some (pv_i y3), some (pv_i (z4 + (-1))), none, none, none, none, none, none, none, none, none]) ⟨Or.inr rfl, Or.inr rfl, Or.inr rfl, Or.inr rfl, Or.inr rfl, Or.inl rfl, Or.inl rfl, Or.inl rfl, Or.inl rfl, Or.inl rfl, Or.inl rfl, Or.inl rfl, Or.inl rfl, Or.inl rfl, trivial⟩ ?_
      exact hc _ (Option.some.inj h).symm
def bdX12_bests_4 (y1 : Int) (z2 : Int) (z3 : Int) (σ : pm_M) : Option ((Int × Int × pm_M) ⊕ (Int × Int × pm_M)) :=
  if (wr (σ 0 17)) ≤ (wr z3) then (some (.inl (z2, z3, σ))) else (pm_g (0 ≤ (wr z3) ∧ (wr z3) < 12) (if (wr (σ 21 (Int.toNat (wr z3)))) < 0 then ((pm_it (fun a => bdX12_bests_27 y1 z2 z3 a.1 a.2) pm_fuel (z2, σ)).bind fun v11 => pm_g (0 ≤ (wr v11.1) ∧ (wr v11.1) < 12) (some (.inr ((z2 + 1), (z3 + 1), (pm_up v11.2 27 (Int.toNat (wr v11.1)) z3))))) else (some (.inr (z2, (z3 + 1), σ)))))
set_option maxHeartbeats 4000000 in
set_option maxRecDepth 100000 in
theorem tbX12_bests_4 {lay0 lay' : List pm_S} {r : Option pm_V} {σ' : pm_M} (y1 : Int) : ∀ (a : Int × Int × pm_M) (e : (Int × Int × pm_M) ⊕ (Int × Int × pm_M)), (fun a => bdX12_bests_4 y1 a.1 a.2.1 a.2.2) a = some e → (∀ a, e = .inr a → (fun a => pm_J mX12_bests 1 22 lay0 r lay' σ' 4 [some (pv_r 0), some (pv_i y1), some (pv_i a.1), some (pv_i a.2.1), none, none, none, none, none, none, none, none, none, none] [] LAYM a.2.2) a) → (∀ a, e = .inl a → (fun a => pm_J mX12_bests 1 22 lay0 r lay' σ' 94 [some (pv_r 0), some (pv_i y1), some (pv_i a.1), none, none, none, none, none, none, none, none, none, none, none] [] LAYM a.2.2) a) → (fun a => pm_J mX12_bests 1 22 lay0 r lay' σ' 4 [some (pv_r 0), some (pv_i y1), some (pv_i a.1), some (pv_i a.2.1), none, none, none, none, none, none, none, none, none, none] [] LAYM a.2.2) a := by
  intro a e h hc hx
  obtain ⟨z2, z3, σ⟩ := a
  have h : bdX12_bests_4 y1 z2 z3 σ = some e := h
  unfold bdX12_bests_4 at h
  show pm_J mX12_bests 1 22 lay0 r lay' σ' 4 [some (pv_r 0), some (pv_i y1), some (pv_i z2), some (pv_i z3), none, none, none, none, none, none, none, none, none, none] [] LAYM σ
  refine pr_iload_n dX12_bests_4 rfl ?_
  refine pr_aload_n dX12_bests_5 rfl ?_
  refine pr_getI dX12_bests_6 lk_X12_154 lm_0 rfl ?_
  refine pr_icmp_ge (tgt := 94) dX12_bests_9 rfl rfl (by decide) (fun c_1 => ?_) (fun c_1 => ?_)
  · have h := pm_pos c_1 h
    refine pr_weak (L2 := [some (pv_r 0), some (pv_i y1), some (pv_i z2), none, none, none, none, none, none, none, none, none, none, none]) ⟨Or.inr rfl, Or.inr rfl, Or.inr rfl, Or.inl rfl, Or.inl rfl, Or.inl rfl, Or.inl rfl, Or.inl rfl, Or.inl rfl, Or.inl rfl, Or.inl rfl, Or.inl rfl, Or.inl rfl, Or.inl rfl, trivial⟩ ?_
    exact hx _ (Option.some.inj h).symm
  · have h := pm_ng c_1 h
    refine pr_aload_n dX12_bests_12 rfl ?_
    refine pr_getR dX12_bests_13 lk_X12_74 lm_0 rfl ?_
    refine pr_iload_n dX12_bests_16 rfl ?_
    obtain ⟨g_2, h⟩ := pm_gs h
    refine pr_iald dX12_bests_17 lm_21 rfl g_2 ?_
    refine pr_if_lt (tgt := 24) dX12_bests_18 rfl (by decide) (fun c_3 => ?_) (fun c_3 => ?_)
    · have h := pm_pos c_3 h
      refine pr_iload_n dX12_bests_24 rfl ?_
      refine pr_istore dX12_bests_25 (by decide) rfl ?_
      obtain ⟨v11, e12, h⟩ := pm_bs h
      refine pr_weak (L2 := [some (pv_r 0), some (pv_i y1), some (pv_i z2), some (pv_i z3), some (pv_i z2), none, none, none, none, none, none, none, none, none]) ⟨Or.inr rfl, Or.inr rfl, Or.inr rfl, Or.inr rfl, Or.inr rfl, Or.inl rfl, Or.inl rfl, Or.inl rfl, Or.inl rfl, Or.inl rfl, Or.inl rfl, Or.inl rfl, Or.inl rfl, Or.inl rfl, trivial⟩ ?_
      refine pm_it_J (P := fun a => pm_J mX12_bests 1 22 lay0 r lay' σ' 27 [some (pv_r 0), some (pv_i y1), some (pv_i z2), some (pv_i z3), some (pv_i a.1), none, none, none, none, none, none, none, none, none] [] LAYM a.2) (Rx := fun a => pm_J mX12_bests 1 22 lay0 r lay' σ' 77 [some (pv_r 0), some (pv_i y1), some (pv_i z2), some (pv_i z3), some (pv_i a.1), none, none, none, none, none, none, none, none, none] [] LAYM a.2) (tbX12_bests_27 y1 z2 z3) _ _ _ e12 ?_
      show pm_J mX12_bests 1 22 lay0 r lay' σ' 77 [some (pv_r 0), some (pv_i y1), some (pv_i z2), some (pv_i z3), some (pv_i v11.1), none, none, none, none, none, none, none, none, none] [] LAYM v11.2
      refine pr_aload_n dX12_bests_77 rfl ?_
      refine pr_getR dX12_bests_78 lk_X12_92 lm_0 rfl ?_
      refine pr_iload dX12_bests_81 rfl ?_
      refine pr_iload_n dX12_bests_83 rfl ?_
      obtain ⟨g_13, h⟩ := pm_gs h
      refine pr_iast dX12_bests_84 lm_27 rfl g_13 ?_
      refine pr_iinc dX12_bests_85 rfl (by decide) rfl ?_
      refine pr_iinc dX12_bests_88 rfl (by decide) rfl ?_
      refine pr_goto (tgt := 4) dX12_bests_91 (by decide) ?_
      refine pr_weak (L2 := [some (pv_r 0), some (pv_i y1), some (pv_i (z2 + 1)), some (pv_i (z3 + 1)), none, none, none, none, none, none, none, none, none, none]) ⟨Or.inr rfl, Or.inr rfl, Or.inr rfl, Or.inr rfl, Or.inl rfl, Or.inl rfl, Or.inl rfl, Or.inl rfl, Or.inl rfl, Or.inl rfl, Or.inl rfl, Or.inl rfl, Or.inl rfl, Or.inl rfl, trivial⟩ ?_
      exact hc _ (Option.some.inj h).symm
    · have h := pm_ng c_3 h
      refine pr_goto (tgt := 88) dX12_bests_21 (by decide) ?_
      refine pr_iinc dX12_bests_88 rfl (by decide) rfl ?_
      refine pr_goto (tgt := 4) dX12_bests_91 (by decide) ?_
      refine pr_weak (L2 := [some (pv_r 0), some (pv_i y1), some (pv_i z2), some (pv_i (z3 + 1)), none, none, none, none, none, none, none, none, none, none]) ⟨Or.inr rfl, Or.inr rfl, Or.inr rfl, Or.inr rfl, Or.inl rfl, Or.inl rfl, Or.inl rfl, Or.inl rfl, Or.inl rfl, Or.inl rfl, Or.inl rfl, Or.inl rfl, Or.inl rfl, Or.inl rfl, trivial⟩ ?_
      exact hc _ (Option.some.inj h).symm
def jnX12_bests_237l160 (y1 : Int) (y2 : Int) (y4 : Int) (y5 : Int) (w6 : Int) (w7 : Int) (w8 : Int) (w9 : Int) (w12 : Int) (w13 : Int) (u0 : Int) (σ : pm_M) : Option ((Int × Int × Int × Int × Int × Int) ⊕ (Int × Int × Int × Int × Int × Int)) :=
  pm_g (0 ≤ (wr w13) ∧ (wr w13) < 12) (pm_g (0 ≤ (wr w13) ∧ (wr w13) < 12) (some (.inr ((w6 + ((σ 20 (Int.toNat (wr w13))) * (σ 18 (Int.toNat (wr w13))))), (pm_or w7 (pm_shl 1 w13)), (w8 + 1), w9, u0, (w12 + 1)))))
set_option maxHeartbeats 4000000 in
set_option maxRecDepth 100000 in
theorem tjX12_bests_237l160 {lay0 lay' : List pm_S} {r : Option pm_V} {σ' : pm_M} {y1 : Int} {y2 : Int} {y4 : Int} {y5 : Int} {w6 : Int} {w7 : Int} {w8 : Int} {w9 : Int} {w12 : Int} {w13 : Int} {u0 : Int} {σ : pm_M} {e : (Int × Int × Int × Int × Int × Int) ⊕ (Int × Int × Int × Int × Int × Int)} (h : jnX12_bests_237l160 y1 y2 y4 y5 w6 w7 w8 w9 w12 w13 u0 σ = some e) (hc : ∀ a, e = .inr a → (fun a => pm_J mX12_bests 1 22 lay0 r lay' σ' 160 [some (pv_r 0), some (pv_i y1), some (pv_i y2), none, some (pv_i y4), some (pv_i y5), some (pv_i a.1), some (pv_i a.2.1), some (pv_i a.2.2.1), some (pv_l a.2.2.2.1), none, some (pv_i a.2.2.2.2.1), some (pv_i a.2.2.2.2.2), none] [] LAYM σ) a) (hx : ∀ a, e = .inl a → (fun a => pm_J mX12_bests 1 22 lay0 r lay' σ' 277 [some (pv_r 0), some (pv_i y1), some (pv_i y2), none, some (pv_i y4), some (pv_i y5), some (pv_i a.1), some (pv_i a.2.1), some (pv_i a.2.2.1), none, none, some (pv_i a.2.2.2.2.1), none, none] [] LAYM σ) a) : pm_J mX12_bests 1 22 lay0 r lay' σ' 237 [some (pv_r 0), some (pv_i y1), some (pv_i y2), none, some (pv_i y4), some (pv_i y5), some (pv_i w6), some (pv_i w7), some (pv_i w8), some (pv_l w9), none, none, some (pv_i w12), some (pv_i w13)] [pv_i u0] LAYM σ := by
  unfold jnX12_bests_237l160 at h
  refine pr_istore dX12_bests_237 (by decide) rfl ?_
  refine pr_iload dX12_bests_239 rfl ?_
  refine pr_aload_n dX12_bests_241 rfl ?_
  refine pr_getR dX12_bests_242 lk_X12_71 lm_0 rfl ?_
  refine pr_iload dX12_bests_245 rfl ?_
  obtain ⟨g_26, h⟩ := pm_gs h
  refine pr_iald dX12_bests_247 lm_20 rfl g_26 ?_
  refine pr_aload_n dX12_bests_248 rfl ?_
  refine pr_getR dX12_bests_249 lk_X12_65 lm_0 rfl ?_
  refine pr_iload dX12_bests_252 rfl ?_
  obtain ⟨g_27, h⟩ := pm_gs h
  refine pr_iald dX12_bests_254 lm_18 rfl g_27 ?_
  refine pr_imul dX12_bests_255 ?_
  refine pr_iadd dX12_bests_256 ?_
  refine pr_istore dX12_bests_257 (by decide) rfl ?_
  refine pr_iload dX12_bests_259 rfl ?_
  refine pr_iconst dX12_bests_261 ?_
  refine pr_iload dX12_bests_262 rfl ?_
  refine pr_ishl dX12_bests_264 ?_
  refine pr_ior dX12_bests_265 ?_
  refine pr_istore dX12_bests_266 (by decide) rfl ?_
  refine pr_iinc dX12_bests_268 rfl (by decide) rfl ?_
  refine pr_iinc dX12_bests_271 rfl (by decide) rfl ?_
  refine pr_goto (tgt := 160) dX12_bests_274 (by decide) ?_
  refine pr_weak (L2 := [some (pv_r 0), some (pv_i y1), some (pv_i y2), none, some (pv_i y4), some (pv_i y5), some (pv_i (w6 + ((σ 20 (Int.toNat (wr w13))) * (σ 18 (Int.toNat (wr w13)))))), some (pv_i (pm_or w7 (pm_shl 1 w13))), some (pv_i (w8 + 1)), some (pv_l w9), none, some (pv_i u0), some (pv_i (w12 + 1)), none]) ⟨Or.inr rfl, Or.inr rfl, Or.inr rfl, Or.inl rfl, Or.inr rfl, Or.inr rfl, Or.inr rfl, Or.inr rfl, Or.inr rfl, Or.inr rfl, Or.inl rfl, Or.inr rfl, Or.inr rfl, Or.inl rfl, trivial⟩ ?_
  exact hc _ (Option.some.inj h).symm
def jnX12_bests_236l160 (y1 : Int) (y2 : Int) (y4 : Int) (y5 : Int) (w6 : Int) (w7 : Int) (w8 : Int) (w9 : Int) (w12 : Int) (w13 : Int) (σ : pm_M) : Option ((Int × Int × Int × Int × Int × Int) ⊕ (Int × Int × Int × Int × Int × Int)) :=
  jnX12_bests_237l160 y1 y2 y4 y5 w6 w7 w8 w9 w12 w13 0 σ
set_option maxHeartbeats 4000000 in
set_option maxRecDepth 100000 in
theorem tjX12_bests_236l160 {lay0 lay' : List pm_S} {r : Option pm_V} {σ' : pm_M} {y1 : Int} {y2 : Int} {y4 : Int} {y5 : Int} {w6 : Int} {w7 : Int} {w8 : Int} {w9 : Int} {w12 : Int} {w13 : Int} {σ : pm_M} {e : (Int × Int × Int × Int × Int × Int) ⊕ (Int × Int × Int × Int × Int × Int)} (h : jnX12_bests_236l160 y1 y2 y4 y5 w6 w7 w8 w9 w12 w13 σ = some e) (hc : ∀ a, e = .inr a → (fun a => pm_J mX12_bests 1 22 lay0 r lay' σ' 160 [some (pv_r 0), some (pv_i y1), some (pv_i y2), none, some (pv_i y4), some (pv_i y5), some (pv_i a.1), some (pv_i a.2.1), some (pv_i a.2.2.1), some (pv_l a.2.2.2.1), none, some (pv_i a.2.2.2.2.1), some (pv_i a.2.2.2.2.2), none] [] LAYM σ) a) (hx : ∀ a, e = .inl a → (fun a => pm_J mX12_bests 1 22 lay0 r lay' σ' 277 [some (pv_r 0), some (pv_i y1), some (pv_i y2), none, some (pv_i y4), some (pv_i y5), some (pv_i a.1), some (pv_i a.2.1), some (pv_i a.2.2.1), none, none, some (pv_i a.2.2.2.2.1), none, none] [] LAYM σ) a) : pm_J mX12_bests 1 22 lay0 r lay' σ' 236 [some (pv_r 0), some (pv_i y1), some (pv_i y2), none, some (pv_i y4), some (pv_i y5), some (pv_i w6), some (pv_i w7), some (pv_i w8), some (pv_l w9), none, none, some (pv_i w12), some (pv_i w13)] [] LAYM σ := by
  unfold jnX12_bests_236l160 at h
  refine pr_iconst dX12_bests_236 ?_
  refine pr_weak (L2 := [some (pv_r 0), some (pv_i y1), some (pv_i y2), none, some (pv_i y4), some (pv_i y5), some (pv_i w6), some (pv_i w7), some (pv_i w8), some (pv_l w9), none, none, some (pv_i w12), some (pv_i w13)]) ⟨Or.inr rfl, Or.inr rfl, Or.inr rfl, Or.inl rfl, Or.inr rfl, Or.inr rfl, Or.inr rfl, Or.inr rfl, Or.inr rfl, Or.inr rfl, Or.inl rfl, Or.inl rfl, Or.inr rfl, Or.inr rfl, trivial⟩ ?_
  exact tjX12_bests_237l160 h hc hx
def bdX12_bests_160 (y1 : Int) (y2 : Int) (y4 : Int) (y5 : Int) (σ : pm_M) (z6 : Int) (z7 : Int) (z8 : Int) (z9 : Int) (z11 : Int) (z12 : Int) : Option ((Int × Int × Int × Int × Int × Int) ⊕ (Int × Int × Int × Int × Int × Int)) :=
  if (wr y2) ≤ (wr z12) then (some (.inl (z6, z7, z8, z9, z11, z12))) else (if (wr (pm_and (pm_shr y5 z12) 1)) = 0 then (some (.inr (z6, z7, z8, z9, z11, (z12 + 1)))) else (pm_g (0 ≤ (wr z12) ∧ (wr z12) < 12) (pm_g (0 ≤ (wr (σ 27 (Int.toNat (wr z12)))) ∧ (wr (σ 27 (Int.toNat (wr z12)))) < 12) (if (wr z11) = 0 then (jnX12_bests_236l160 y1 y2 y4 y5 z6 z7 z8 (z9 + (480 * (wr (σ 18 (Int.toNat (wr (σ 27 (Int.toNat (wr z12))))))))) z12 (σ 27 (Int.toNat (wr z12))) σ) else (pm_g (0 ≤ (wr (σ 27 (Int.toNat (wr z12)))) ∧ (wr (σ 27 (Int.toNat (wr z12)))) < 12) ((fX12_today σ).bind fun q29 => if 0 < (wr (pm_cmp (z9 + (480 * (wr (σ 18 (Int.toNat (wr (σ 27 (Int.toNat (wr z12))))))))) ((wr y1) * (wr ((σ 19 (Int.toNat (wr (σ 27 (Int.toNat (wr z12)))))) - q29))))) then (jnX12_bests_236l160 y1 y2 y4 y5 z6 z7 z8 (z9 + (480 * (wr (σ 18 (Int.toNat (wr (σ 27 (Int.toNat (wr z12))))))))) z12 (σ 27 (Int.toNat (wr z12))) σ) else (jnX12_bests_237l160 y1 y2 y4 y5 z6 z7 z8 (z9 + (480 * (wr (σ 18 (Int.toNat (wr (σ 27 (Int.toNat (wr z12))))))))) z12 (σ 27 (Int.toNat (wr z12))) 1 σ)))))))
set_option maxHeartbeats 4000000 in
set_option maxRecDepth 100000 in
theorem tbX12_bests_160 {lay0 lay' : List pm_S} {r : Option pm_V} {σ' : pm_M} (y1 : Int) (y2 : Int) (y4 : Int) (y5 : Int) (σ : pm_M) : ∀ (a : Int × Int × Int × Int × Int × Int) (e : (Int × Int × Int × Int × Int × Int) ⊕ (Int × Int × Int × Int × Int × Int)), (fun a => bdX12_bests_160 y1 y2 y4 y5 σ a.1 a.2.1 a.2.2.1 a.2.2.2.1 a.2.2.2.2.1 a.2.2.2.2.2) a = some e → (∀ a, e = .inr a → (fun a => pm_J mX12_bests 1 22 lay0 r lay' σ' 160 [some (pv_r 0), some (pv_i y1), some (pv_i y2), none, some (pv_i y4), some (pv_i y5), some (pv_i a.1), some (pv_i a.2.1), some (pv_i a.2.2.1), some (pv_l a.2.2.2.1), none, some (pv_i a.2.2.2.2.1), some (pv_i a.2.2.2.2.2), none] [] LAYM σ) a) → (∀ a, e = .inl a → (fun a => pm_J mX12_bests 1 22 lay0 r lay' σ' 277 [some (pv_r 0), some (pv_i y1), some (pv_i y2), none, some (pv_i y4), some (pv_i y5), some (pv_i a.1), some (pv_i a.2.1), some (pv_i a.2.2.1), none, none, some (pv_i a.2.2.2.2.1), none, none] [] LAYM σ) a) → (fun a => pm_J mX12_bests 1 22 lay0 r lay' σ' 160 [some (pv_r 0), some (pv_i y1), some (pv_i y2), none, some (pv_i y4), some (pv_i y5), some (pv_i a.1), some (pv_i a.2.1), some (pv_i a.2.2.1), some (pv_l a.2.2.2.1), none, some (pv_i a.2.2.2.2.1), some (pv_i a.2.2.2.2.2), none] [] LAYM σ) a := by
  intro a e h hc hx
  obtain ⟨z6, z7, z8, z9, z11, z12⟩ := a
  have h : bdX12_bests_160 y1 y2 y4 y5 σ z6 z7 z8 z9 z11 z12 = some e := h
  unfold bdX12_bests_160 at h
  show pm_J mX12_bests 1 22 lay0 r lay' σ' 160 [some (pv_r 0), some (pv_i y1), some (pv_i y2), none, some (pv_i y4), some (pv_i y5), some (pv_i z6), some (pv_i z7), some (pv_i z8), some (pv_l z9), none, some (pv_i z11), some (pv_i z12), none] [] LAYM σ
  refine pr_iload dX12_bests_160 rfl ?_
  refine pr_iload_n dX12_bests_162 rfl ?_
  refine pr_icmp_ge (tgt := 277) dX12_bests_163 rfl rfl (by decide) (fun c_21 => ?_) (fun c_21 => ?_)
  · have h := pm_pos c_21 h
    refine pr_weak (L2 := [some (pv_r 0), some (pv_i y1), some (pv_i y2), none, some (pv_i y4), some (pv_i y5), some (pv_i z6), some (pv_i z7), some (pv_i z8), none, none, some (pv_i z11), none, none]) ⟨Or.inr rfl, Or.inr rfl, Or.inr rfl, Or.inl rfl, Or.inr rfl, Or.inr rfl, Or.inr rfl, Or.inr rfl, Or.inr rfl, Or.inl rfl, Or.inl rfl, Or.inr rfl, Or.inl rfl, Or.inl rfl, trivial⟩ ?_
    exact hx _ (Option.some.inj h).symm
  · have h := pm_ng c_21 h
    refine pr_iload dX12_bests_166 rfl ?_
    refine pr_iload dX12_bests_168 rfl ?_
    refine pr_ishr dX12_bests_170 ?_
    refine pr_iconst dX12_bests_171 ?_
    refine pr_iand dX12_bests_172 ?_
    refine pr_if_ne (tgt := 179) dX12_bests_173 rfl (by decide) (fun c_22 => ?_) (fun c_22 => ?_)
    · have h := pm_ng c_22 h
      refine pr_aload_n dX12_bests_179 rfl ?_
      refine pr_getR dX12_bests_180 lk_X12_92 lm_0 rfl ?_
      refine pr_iload dX12_bests_183 rfl ?_
      obtain ⟨g_23, h⟩ := pm_gs h
      refine pr_iald dX12_bests_185 lm_27 rfl g_23 ?_
      refine pr_istore dX12_bests_186 (by decide) rfl ?_
      refine pr_lload dX12_bests_188 rfl ?_
      refine pr_ldc2 dX12_bests_190 lkc_X12_171 ?_
      refine pr_aload_n dX12_bests_193 rfl ?_
      refine pr_getR dX12_bests_194 lk_X12_65 lm_0 rfl ?_
      refine pr_iload dX12_bests_197 rfl ?_
      obtain ⟨g_24, h⟩ := pm_gs h
      refine pr_iald dX12_bests_199 lm_18 rfl g_24 ?_
      refine pr_i2l dX12_bests_200 rfl ?_
      refine pr_lmul dX12_bests_201 ?_
      refine pr_ladd dX12_bests_202 ?_
      refine pr_lstore dX12_bests_203 (by decide) rfl ?_
      refine pr_iload dX12_bests_205 rfl ?_
      refine pr_if_eq (tgt := 236) dX12_bests_207 rfl (by decide) (fun c_25 => ?_) (fun c_25 => ?_)
      · have h := pm_pos c_25 h
        refine pr_weak (L2 := [some (pv_r 0), some (pv_i y1), some (pv_i y2), none, some (pv_i y4), some (pv_i y5), some (pv_i z6), some (pv_i z7), some (pv_i z8), some (pv_l (z9 + (480 * (wr (σ 18 (Int.toNat (wr (σ 27 (Int.toNat (wr z12)))))))))), none, none, some (pv_i z12), some (pv_i (σ 27 (Int.toNat (wr z12))))]) ⟨Or.inr rfl, Or.inr rfl, Or.inr rfl, Or.inl rfl, Or.inr rfl, Or.inr rfl, Or.inr rfl, Or.inr rfl, Or.inr rfl, Or.inr rfl, Or.inl rfl, Or.inl rfl, Or.inr rfl, Or.inr rfl, trivial⟩ ?_
        exact tjX12_bests_236l160 h hc hx
      · have h := pm_ng c_25 h
        refine pr_lload dX12_bests_210 rfl ?_
        refine pr_iload_n dX12_bests_212 rfl ?_
        refine pr_i2l dX12_bests_213 rfl ?_
        refine pr_aload_n dX12_bests_214 rfl ?_
        refine pr_getR dX12_bests_215 lk_X12_68 lm_0 rfl ?_
        refine pr_iload dX12_bests_218 rfl ?_
        obtain ⟨g_28, h⟩ := pm_gs h
        refine pr_iald dX12_bests_220 lm_19 rfl g_28 ?_
        refine pr_aload_n dX12_bests_221 rfl ?_
        obtain ⟨q29, e30, h⟩ := pm_bs h
        refine pr_callV (As := []) (S := [pv_i (σ 19 (Int.toNat (wr (σ 27 (Int.toNat (wr z12)))))), pv_l (wr y1), pv_l (z9 + (480 * (wr (σ 18 (Int.toNat (wr (σ 27 (Int.toNat (wr z12)))))))))]) (t := 0) dX12_bests_222 mk_X12_158 lm_0 (ci := 12) (q := (RX12, TX12, 36)) rfl rfl rfl rfl (by decide) (by decide) (by decide) (Or.inl rfl) (tmX12_today e30) ?_
        refine pr_isub dX12_bests_225 ?_
        refine pr_i2l dX12_bests_226 rfl ?_
        refine pr_lmul dX12_bests_227 ?_
        refine pr_lcmp dX12_bests_228 ?_
        refine pr_if_gt (tgt := 236) dX12_bests_229 rfl (by decide) (fun c_31 => ?_) (fun c_31 => ?_)
        · have h := pm_pos c_31 h
          refine pr_weak (L2 := [some (pv_r 0), some (pv_i y1), some (pv_i y2), none, some (pv_i y4), some (pv_i y5), some (pv_i z6), some (pv_i z7), some (pv_i z8), some (pv_l (z9 + (480 * (wr (σ 18 (Int.toNat (wr (σ 27 (Int.toNat (wr z12)))))))))), none, none, some (pv_i z12), some (pv_i (σ 27 (Int.toNat (wr z12))))]) ⟨Or.inr rfl, Or.inr rfl, Or.inr rfl, Or.inl rfl, Or.inr rfl, Or.inr rfl, Or.inr rfl, Or.inr rfl, Or.inr rfl, Or.inr rfl, Or.inl rfl, Or.inl rfl, Or.inr rfl, Or.inr rfl, trivial⟩ ?_
          exact tjX12_bests_236l160 h hc hx
        · have h := pm_ng c_31 h
          refine pr_iconst dX12_bests_232 ?_
          refine pr_goto (tgt := 237) dX12_bests_233 (by decide) ?_
          refine pr_weak (L2 := [some (pv_r 0), some (pv_i y1), some (pv_i y2), none, some (pv_i y4), some (pv_i y5), some (pv_i z6), some (pv_i z7), some (pv_i z8), some (pv_l (z9 + (480 * (wr (σ 18 (Int.toNat (wr (σ 27 (Int.toNat (wr z12)))))))))), none, none, some (pv_i z12), some (pv_i (σ 27 (Int.toNat (wr z12))))]) ⟨Or.inr rfl, Or.inr rfl, Or.inr rfl, Or.inl rfl, Or.inr rfl, Or.inr rfl, Or.inr rfl, Or.inr rfl, Or.inr rfl, Or.inr rfl, Or.inl rfl, Or.inl rfl, Or.inr rfl, Or.inr rfl, trivial⟩ ?_
          exact tjX12_bests_237l160 h hc hx
    · have h := pm_pos c_22 h
      refine pr_goto (tgt := 271) dX12_bests_176 (by decide) ?_
      refine pr_iinc dX12_bests_271 rfl (by decide) rfl ?_
      refine pr_goto (tgt := 160) dX12_bests_274 (by decide) ?_
      refine pr_weak (L2 := [some (pv_r 0), some (pv_i y1), some (pv_i y2), none, some (pv_i y4), some (pv_i y5), some (pv_i z6), some (pv_i z7), some (pv_i z8), some (pv_l z9), none, some (pv_i z11), some (pv_i (z12 + 1)), none]) ⟨Or.inr rfl, Or.inr rfl, Or.inr rfl, Or.inl rfl, Or.inr rfl, Or.inr rfl, Or.inr rfl, Or.inr rfl, Or.inr rfl, Or.inr rfl, Or.inl rfl, Or.inr rfl, Or.inr rfl, Or.inl rfl, trivial⟩ ?_
      exact hc _ (Option.some.inj h).symm
def jnX12_bests_326l134 (y1 : Int) (y2 : Int) (w5 : Int) (w6 : Int) (w7 : Int) (w8 : Int) (σ : pm_M) : Option ((Int × Int × pm_M) ⊕ (Int × Int × pm_M)) :=
  some (.inr (w8, (w5 + 1), (pm_up (pm_up σ 0 34 w7) 0 35 w6)))
set_option maxHeartbeats 4000000 in
set_option maxRecDepth 100000 in
theorem tjX12_bests_326l134 {lay0 lay' : List pm_S} {r : Option pm_V} {σ' : pm_M} {y1 : Int} {y2 : Int} {w5 : Int} {w6 : Int} {w7 : Int} {w8 : Int} {σ : pm_M} {e : (Int × Int × pm_M) ⊕ (Int × Int × pm_M)} (h : jnX12_bests_326l134 y1 y2 w5 w6 w7 w8 σ = some e) (hc : ∀ a, e = .inr a → (fun a => pm_J mX12_bests 1 22 lay0 r lay' σ' 134 [some (pv_r 0), some (pv_i y1), some (pv_i y2), none, some (pv_i a.1), some (pv_i a.2.1), none, none, none, none, none, none, none, none] [] LAYM a.2.2) a) (hx : ∀ a, e = .inl a → (fun a => pm_J mX12_bests 1 22 lay0 r lay' σ' 348 [none, none, none, none, none, none, none, none, none, none, none, none, none, none] [] LAYM a.2.2) a) : pm_J mX12_bests 1 22 lay0 r lay' σ' 326 [some (pv_r 0), some (pv_i y1), some (pv_i y2), none, none, some (pv_i w5), some (pv_i w6), some (pv_i w7), some (pv_i w8), none, none, none, none, none] [] LAYM σ := by
  unfold jnX12_bests_326l134 at h
  refine pr_aload_n dX12_bests_326 rfl ?_
  refine pr_iload dX12_bests_327 rfl ?_
  refine pr_putI dX12_bests_329 lp_X12_165 lm_0 rfl ?_
  refine pr_aload_n dX12_bests_332 rfl ?_
  refine pr_iload dX12_bests_333 rfl ?_
  refine pr_putI dX12_bests_335 lp_X12_168 lm_0 rfl ?_
  refine pr_iload dX12_bests_338 rfl ?_
  refine pr_istore dX12_bests_340 (by decide) rfl ?_
  refine pr_iinc dX12_bests_342 rfl (by decide) rfl ?_
  refine pr_goto (tgt := 134) dX12_bests_345 (by decide) ?_
  refine pr_weak (L2 := [some (pv_r 0), some (pv_i y1), some (pv_i y2), none, some (pv_i w8), some (pv_i (w5 + 1)), none, none, none, none, none, none, none, none]) ⟨Or.inr rfl, Or.inr rfl, Or.inr rfl, Or.inl rfl, Or.inr rfl, Or.inr rfl, Or.inl rfl, Or.inl rfl, Or.inl rfl, Or.inl rfl, Or.inl rfl, Or.inl rfl, Or.inl rfl, Or.inl rfl, trivial⟩ ?_
  exact hc _ (Option.some.inj h).symm
def bdX12_bests_134 (y1 : Int) (y2 : Int) (z4 : Int) (z5 : Int) (σ : pm_M) : Option ((Int × Int × pm_M) ⊕ (Int × Int × pm_M)) :=
  if (wr (pm_shl 1 y2)) ≤ (wr z5) then (some (.inl (z4, z5, σ))) else ((pm_it (fun a => bdX12_bests_160 y1 y2 z4 z5 σ a.1 a.2.1 a.2.2.1 a.2.2.2.1 a.2.2.2.2.1 a.2.2.2.2.2) pm_fuel (0, 0, 0, 0, 1, 0)).bind fun v32 => if (wr v32.2.2.2.2.1) = 0 then (some (.inr (z4, (z5 + 1), σ))) else (if (wr v32.1) < (wr (σ 0 35)) then (some (.inr (z4, (z5 + 1), σ))) else (if (wr v32.1) = (wr (σ 0 35)) then (if (wr z4) < (wr v32.2.2.1) then (some (.inr (z4, (z5 + 1), σ))) else (if (wr v32.2.2.1) = (wr z4) then (if (wr v32.2.1) < (wr (σ 0 34)) then (jnX12_bests_326l134 y1 y2 z5 v32.1 v32.2.1 v32.2.2.1 σ) else (some (.inr (z4, (z5 + 1), σ)))) else (jnX12_bests_326l134 y1 y2 z5 v32.1 v32.2.1 v32.2.2.1 σ))) else (jnX12_bests_326l134 y1 y2 z5 v32.1 v32.2.1 v32.2.2.1 σ))))
set_option maxHeartbeats 4000000 in
set_option maxRecDepth 100000 in
theorem tbX12_bests_134 {lay0 lay' : List pm_S} {r : Option pm_V} {σ' : pm_M} (y1 : Int) (y2 : Int) : ∀ (a : Int × Int × pm_M) (e : (Int × Int × pm_M) ⊕ (Int × Int × pm_M)), (fun a => bdX12_bests_134 y1 y2 a.1 a.2.1 a.2.2) a = some e → (∀ a, e = .inr a → (fun a => pm_J mX12_bests 1 22 lay0 r lay' σ' 134 [some (pv_r 0), some (pv_i y1), some (pv_i y2), none, some (pv_i a.1), some (pv_i a.2.1), none, none, none, none, none, none, none, none] [] LAYM a.2.2) a) → (∀ a, e = .inl a → (fun a => pm_J mX12_bests 1 22 lay0 r lay' σ' 348 [none, none, none, none, none, none, none, none, none, none, none, none, none, none] [] LAYM a.2.2) a) → (fun a => pm_J mX12_bests 1 22 lay0 r lay' σ' 134 [some (pv_r 0), some (pv_i y1), some (pv_i y2), none, some (pv_i a.1), some (pv_i a.2.1), none, none, none, none, none, none, none, none] [] LAYM a.2.2) a := by
  intro a e h hc hx
  obtain ⟨z4, z5, σ⟩ := a
  have h : bdX12_bests_134 y1 y2 z4 z5 σ = some e := h
  unfold bdX12_bests_134 at h
  show pm_J mX12_bests 1 22 lay0 r lay' σ' 134 [some (pv_r 0), some (pv_i y1), some (pv_i y2), none, some (pv_i z4), some (pv_i z5), none, none, none, none, none, none, none, none] [] LAYM σ
  refine pr_iload dX12_bests_134 rfl ?_
  refine pr_iconst dX12_bests_136 ?_
  refine pr_iload_n dX12_bests_137 rfl ?_
  refine pr_ishl dX12_bests_138 ?_
  refine pr_icmp_ge (tgt := 348) dX12_bests_139 rfl rfl (by decide) (fun c_20 => ?_) (fun c_20 => ?_)
  · have h := pm_pos c_20 h
    refine pr_weak (L2 := [none, none, none, none, none, none, none, none, none, none, none, none, none, none]) ⟨Or.inl rfl, Or.inl rfl, Or.inl rfl, Or.inl rfl, Or.inl rfl, Or.inl rfl, Or.inl rfl, Or.inl rfl, Or.inl rfl, Or.inl rfl, Or.inl rfl, Or.inl rfl, Or.inl rfl, Or.inl rfl, trivial⟩ ?_
    exact hx _ (Option.some.inj h).symm
  · have h := pm_ng c_20 h
    refine pr_iconst dX12_bests_142 ?_
    refine pr_istore dX12_bests_143 (by decide) rfl ?_
    refine pr_iconst dX12_bests_145 ?_
    refine pr_istore dX12_bests_146 (by decide) rfl ?_
    refine pr_iconst dX12_bests_148 ?_
    refine pr_istore dX12_bests_149 (by decide) rfl ?_
    refine pr_lconst (z := 0) dX12_bests_151 (by decide) ?_
    refine pr_lstore dX12_bests_152 (by decide) rfl ?_
    refine pr_iconst dX12_bests_154 ?_
    refine pr_istore dX12_bests_155 (by decide) rfl ?_
    refine pr_iconst dX12_bests_157 ?_
    refine pr_istore dX12_bests_158 (by decide) rfl ?_
    obtain ⟨v32, e33, h⟩ := pm_bs h
    refine pr_weak (L2 := [some (pv_r 0), some (pv_i y1), some (pv_i y2), none, some (pv_i z4), some (pv_i z5), some (pv_i 0), some (pv_i 0), some (pv_i 0), some (pv_l 0), none, some (pv_i 1), some (pv_i 0), none]) ⟨Or.inr rfl, Or.inr rfl, Or.inr rfl, Or.inl rfl, Or.inr rfl, Or.inr rfl, Or.inr rfl, Or.inr rfl, Or.inr rfl, Or.inr rfl, Or.inl rfl, Or.inr rfl, Or.inr rfl, Or.inl rfl, trivial⟩ ?_
    refine pm_it_J (P := fun a => pm_J mX12_bests 1 22 lay0 r lay' σ' 160 [some (pv_r 0), some (pv_i y1), some (pv_i y2), none, some (pv_i z4), some (pv_i z5), some (pv_i a.1), some (pv_i a.2.1), some (pv_i a.2.2.1), some (pv_l a.2.2.2.1), none, some (pv_i a.2.2.2.2.1), some (pv_i a.2.2.2.2.2), none] [] LAYM σ) (Rx := fun a => pm_J mX12_bests 1 22 lay0 r lay' σ' 277 [some (pv_r 0), some (pv_i y1), some (pv_i y2), none, some (pv_i z4), some (pv_i z5), some (pv_i a.1), some (pv_i a.2.1), some (pv_i a.2.2.1), none, none, some (pv_i a.2.2.2.2.1), none, none] [] LAYM σ) (tbX12_bests_160 y1 y2 z4 z5 σ) _ _ _ e33 ?_
    show pm_J mX12_bests 1 22 lay0 r lay' σ' 277 [some (pv_r 0), some (pv_i y1), some (pv_i y2), none, some (pv_i z4), some (pv_i z5), some (pv_i v32.1), some (pv_i v32.2.1), some (pv_i v32.2.2.1), none, none, some (pv_i v32.2.2.2.2.1), none, none] [] LAYM σ
    refine pr_iload dX12_bests_277 rfl ?_
    refine pr_if_eq (tgt := 342) dX12_bests_279 rfl (by decide) (fun c_34 => ?_) (fun c_34 => ?_)
    · have h := pm_pos c_34 h
      refine pr_iinc dX12_bests_342 rfl (by decide) rfl ?_
      refine pr_goto (tgt := 134) dX12_bests_345 (by decide) ?_
      refine pr_weak (L2 := [some (pv_r 0), some (pv_i y1), some (pv_i y2), none, some (pv_i z4), some (pv_i (z5 + 1)), none, none, none, none, none, none, none, none]) ⟨Or.inr rfl, Or.inr rfl, Or.inr rfl, Or.inl rfl, Or.inr rfl, Or.inr rfl, Or.inl rfl, Or.inl rfl, Or.inl rfl, Or.inl rfl, Or.inl rfl, Or.inl rfl, Or.inl rfl, Or.inl rfl, trivial⟩ ?_
      exact hc _ (Option.some.inj h).symm
    · have h := pm_ng c_34 h
      refine pr_iload dX12_bests_282 rfl ?_
      refine pr_aload_n dX12_bests_284 rfl ?_
      refine pr_getI dX12_bests_285 lk_X12_168 lm_0 rfl ?_
      refine pr_icmp_lt (tgt := 342) dX12_bests_288 rfl rfl (by decide) (fun c_35 => ?_) (fun c_35 => ?_)
      · have h := pm_pos c_35 h
        refine pr_iinc dX12_bests_342 rfl (by decide) rfl ?_
        refine pr_goto (tgt := 134) dX12_bests_345 (by decide) ?_
        refine pr_weak (L2 := [some (pv_r 0), some (pv_i y1), some (pv_i y2), none, some (pv_i z4), some (pv_i (z5 + 1)), none, none, none, none, none, none, none, none]) ⟨Or.inr rfl, Or.inr rfl, Or.inr rfl, Or.inl rfl, Or.inr rfl, Or.inr rfl, Or.inl rfl, Or.inl rfl, Or.inl rfl, Or.inl rfl, Or.inl rfl, Or.inl rfl, Or.inl rfl, Or.inl rfl, trivial⟩ ?_
        exact hc _ (Option.some.inj h).symm
      · have h := pm_ng c_35 h
        refine pr_iload dX12_bests_291 rfl ?_
        refine pr_aload_n dX12_bests_293 rfl ?_
        refine pr_getI dX12_bests_294 lk_X12_168 lm_0 rfl ?_
        refine pr_icmp_ne (tgt := 326) dX12_bests_297 rfl rfl (by decide) (fun c_36 => ?_) (fun c_36 => ?_)
        · have h := pm_ng c_36 h
          refine pr_weak (L2 := [some (pv_r 0), some (pv_i y1), some (pv_i y2), none, none, some (pv_i z5), some (pv_i v32.1), some (pv_i v32.2.1), some (pv_i v32.2.2.1), none, none, none, none, none]) ⟨Or.inr rfl, Or.inr rfl, Or.inr rfl, Or.inl rfl, Or.inl rfl, Or.inr rfl, Or.inr rfl, Or.inr rfl, Or.inr rfl, Or.inl rfl, Or.inl rfl, Or.inl rfl, Or.inl rfl, Or.inl rfl, trivial⟩ ?_
          exact tjX12_bests_326l134 h hc hx
        · have h := pm_pos c_36 h
          refine pr_iload dX12_bests_300 rfl ?_
          refine pr_iload dX12_bests_302 rfl ?_
          refine pr_icmp_gt (tgt := 342) dX12_bests_304 rfl rfl (by decide) (fun c_37 => ?_) (fun c_37 => ?_)
          · have h := pm_pos c_37 h
            refine pr_iinc dX12_bests_342 rfl (by decide) rfl ?_
            refine pr_goto (tgt := 134) dX12_bests_345 (by decide) ?_
            refine pr_weak (L2 := [some (pv_r 0), some (pv_i y1), some (pv_i y2), none, some (pv_i z4), some (pv_i (z5 + 1)), none, none, none, none, none, none, none, none]) ⟨Or.inr rfl, Or.inr rfl, Or.inr rfl, Or.inl rfl, Or.inr rfl, Or.inr rfl, Or.inl rfl, Or.inl rfl, Or.inl rfl, Or.inl rfl, Or.inl rfl, Or.inl rfl, Or.inl rfl, Or.inl rfl, trivial⟩ ?_
            exact hc _ (Option.some.inj h).symm
          · have h := pm_ng c_37 h
            refine pr_iload dX12_bests_307 rfl ?_
            refine pr_iload dX12_bests_309 rfl ?_
            refine pr_icmp_ne (tgt := 326) dX12_bests_311 rfl rfl (by decide) (fun c_38 => ?_) (fun c_38 => ?_)
            · have h := pm_ng c_38 h
              refine pr_weak (L2 := [some (pv_r 0), some (pv_i y1), some (pv_i y2), none, none, some (pv_i z5), some (pv_i v32.1), some (pv_i v32.2.1), some (pv_i v32.2.2.1), none, none, none, none, none]) ⟨Or.inr rfl, Or.inr rfl, Or.inr rfl, Or.inl rfl, Or.inl rfl, Or.inr rfl, Or.inr rfl, Or.inr rfl, Or.inr rfl, Or.inl rfl, Or.inl rfl, Or.inl rfl, Or.inl rfl, Or.inl rfl, trivial⟩ ?_
              exact tjX12_bests_326l134 h hc hx
            · have h := pm_pos c_38 h
              refine pr_iload dX12_bests_314 rfl ?_
              refine pr_aload_n dX12_bests_316 rfl ?_
              refine pr_getI dX12_bests_317 lk_X12_165 lm_0 rfl ?_
              refine pr_icmp_lt (tgt := 326) dX12_bests_320 rfl rfl (by decide) (fun c_39 => ?_) (fun c_39 => ?_)
              · have h := pm_pos c_39 h
                refine pr_weak (L2 := [some (pv_r 0), some (pv_i y1), some (pv_i y2), none, none, some (pv_i z5), some (pv_i v32.1), some (pv_i v32.2.1), some (pv_i v32.2.2.1), none, none, none, none, none]) ⟨Or.inr rfl, Or.inr rfl, Or.inr rfl, Or.inl rfl, Or.inl rfl, Or.inr rfl, Or.inr rfl, Or.inr rfl, Or.inr rfl, Or.inl rfl, Or.inl rfl, Or.inl rfl, Or.inl rfl, Or.inl rfl, trivial⟩ ?_
                exact tjX12_bests_326l134 h hc hx
              · have h := pm_ng c_39 h
                refine pr_goto (tgt := 342) dX12_bests_323 (by decide) ?_
                refine pr_iinc dX12_bests_342 rfl (by decide) rfl ?_
                refine pr_goto (tgt := 134) dX12_bests_345 (by decide) ?_
                refine pr_weak (L2 := [some (pv_r 0), some (pv_i y1), some (pv_i y2), none, some (pv_i z4), some (pv_i (z5 + 1)), none, none, none, none, none, none, none, none]) ⟨Or.inr rfl, Or.inr rfl, Or.inr rfl, Or.inl rfl, Or.inr rfl, Or.inr rfl, Or.inl rfl, Or.inl rfl, Or.inl rfl, Or.inl rfl, Or.inl rfl, Or.inl rfl, Or.inl rfl, Or.inl rfl, trivial⟩ ?_
                exact hc _ (Option.some.inj h).symm
def fX12_bests (x1 : Int) (σ : pm_M) : Option (Int × pm_M) :=
  (pm_it (fun a => bdX12_bests_4 x1 a.1 a.2.1 a.2.2) pm_fuel (0, 0, σ)).bind fun v14 => if (wr v14.1) ≤ 8 then ((fX12_wrong x1 1 9600).bind fun q17 => if (wr q17) = 0 then ((pm_it (fun a => bdX12_bests_134 x1 v14.1 a.1 a.2.1 a.2.2) pm_fuel (0, 1, (pm_up (pm_up v14.2.2 0 34 0) 0 35 0))).bind fun v40 => some (0, v40.2.2)) else (some (q17, v14.2.2))) else (some ((-3), v14.2.2))
set_option maxHeartbeats 4000000 in
set_option maxRecDepth 100000 in
theorem tmX12_bests {x1 : Int} {σ : pm_M} {ρ : Int × pm_M} (h : fX12_bests x1 σ = some ρ) : pm_C mX12_bests 1 22 [pv_r 0, pv_i x1] LAYM σ (some (pv_i ρ.1)) LAYM ρ.2 := by
  refine pm_C.of rfl rfl (by decide) ?_
  show pm_J mX12_bests 1 22 LAYM (some (pv_i ρ.1)) LAYM ρ.2 0 [some (pv_r 0), some (pv_i x1), none, none, none, none, none, none, none, none, none, none, none, none] [] LAYM σ
  unfold fX12_bests at h
  refine pr_iconst dX12_bests_0 ?_
  refine pr_istore_n dX12_bests_1 (by decide) rfl ?_
  refine pr_iconst dX12_bests_2 ?_
  refine pr_istore_n dX12_bests_3 (by decide) rfl ?_
  obtain ⟨v14, e15, h⟩ := pm_bs h
  refine pr_weak (L2 := [some (pv_r 0), some (pv_i x1), some (pv_i 0), some (pv_i 0), none, none, none, none, none, none, none, none, none, none]) ⟨Or.inr rfl, Or.inr rfl, Or.inr rfl, Or.inr rfl, Or.inl rfl, Or.inl rfl, Or.inl rfl, Or.inl rfl, Or.inl rfl, Or.inl rfl, Or.inl rfl, Or.inl rfl, Or.inl rfl, Or.inl rfl, trivial⟩ ?_
  refine pm_it_J (P := fun a => pm_J mX12_bests 1 22 LAYM (some (pv_i ρ.1)) LAYM ρ.2 4 [some (pv_r 0), some (pv_i x1), some (pv_i a.1), some (pv_i a.2.1), none, none, none, none, none, none, none, none, none, none] [] LAYM a.2.2) (Rx := fun a => pm_J mX12_bests 1 22 LAYM (some (pv_i ρ.1)) LAYM ρ.2 94 [some (pv_r 0), some (pv_i x1), some (pv_i a.1), none, none, none, none, none, none, none, none, none, none, none] [] LAYM a.2.2) (tbX12_bests_4 x1) _ _ _ e15 ?_
  show pm_J mX12_bests 1 22 LAYM (some (pv_i ρ.1)) LAYM ρ.2 94 [some (pv_r 0), some (pv_i x1), some (pv_i v14.1), none, none, none, none, none, none, none, none, none, none, none] [] LAYM v14.2.2
  refine pr_iload_n dX12_bests_94 rfl ?_
  refine pr_bipush dX12_bests_95 (by decide) ?_
  refine pr_icmp_le (tgt := 103) dX12_bests_97 rfl (wr_eq (by decide) (by decide)) (by decide) (fun c_16 => ?_) (fun c_16 => ?_)
  · have h := pm_pos c_16 h
    refine pr_iload_n dX12_bests_103 rfl ?_
    refine pr_iconst dX12_bests_104 ?_
    refine pr_sipush dX12_bests_105 (by decide) ?_
    obtain ⟨q17, e18, h⟩ := pm_bs h
    refine pr_callS (av := [pv_i x1, pv_i 1, pv_i 9600]) (S := []) dX12_bests_108 mk_X12_99 rfl rfl (by decide) (by decide) (by decide) (Or.inl rfl) (tmX12_wrong e18) ?_
    refine pr_istore_n dX12_bests_111 (by decide) rfl ?_
    refine pr_iload_n dX12_bests_112 rfl ?_
    refine pr_if_eq (tgt := 118) dX12_bests_113 rfl (by decide) (fun c_19 => ?_) (fun c_19 => ?_)
    · have h := pm_pos c_19 h
      refine pr_aload_n dX12_bests_118 rfl ?_
      refine pr_iconst dX12_bests_119 ?_
      refine pr_putI dX12_bests_120 lp_X12_165 lm_0 rfl ?_
      refine pr_aload_n dX12_bests_123 rfl ?_
      refine pr_iconst dX12_bests_124 ?_
      refine pr_putI dX12_bests_125 lp_X12_168 lm_0 rfl ?_
      refine pr_iconst dX12_bests_128 ?_
      refine pr_istore dX12_bests_129 (by decide) rfl ?_
      refine pr_iconst dX12_bests_131 ?_
      refine pr_istore dX12_bests_132 (by decide) rfl ?_
      obtain ⟨v40, e41, h⟩ := pm_bs h
      refine pr_weak (L2 := [some (pv_r 0), some (pv_i x1), some (pv_i v14.1), none, some (pv_i 0), some (pv_i 1), none, none, none, none, none, none, none, none]) ⟨Or.inr rfl, Or.inr rfl, Or.inr rfl, Or.inl rfl, Or.inr rfl, Or.inr rfl, Or.inl rfl, Or.inl rfl, Or.inl rfl, Or.inl rfl, Or.inl rfl, Or.inl rfl, Or.inl rfl, Or.inl rfl, trivial⟩ ?_
      refine pm_it_J (P := fun a => pm_J mX12_bests 1 22 LAYM (some (pv_i ρ.1)) LAYM ρ.2 134 [some (pv_r 0), some (pv_i x1), some (pv_i v14.1), none, some (pv_i a.1), some (pv_i a.2.1), none, none, none, none, none, none, none, none] [] LAYM a.2.2) (Rx := fun a => pm_J mX12_bests 1 22 LAYM (some (pv_i ρ.1)) LAYM ρ.2 348 [none, none, none, none, none, none, none, none, none, none, none, none, none, none] [] LAYM a.2.2) (tbX12_bests_134 x1 v14.1) _ _ _ e41 ?_
      show pm_J mX12_bests 1 22 LAYM (some (pv_i ρ.1)) LAYM ρ.2 348 [none, none, none, none, none, none, none, none, none, none, none, none, none, none] [] LAYM v40.2.2
      refine pr_iconst dX12_bests_348 ?_
      have h := Option.some.inj h
      subst h
      exact pr_iret dX12_bests_349 rfl
    · have h := pm_ng c_19 h
      refine pr_iload_n dX12_bests_116 rfl ?_
      have h := Option.some.inj h
      subst h
      exact pr_iret dX12_bests_117 rfl
  · have h := pm_ng c_16 h
    refine pr_bipush dX12_bests_100 (by decide) ?_
    have h := Option.some.inj h
    subst h
    exact pr_iret dX12_bests_102 rfl
