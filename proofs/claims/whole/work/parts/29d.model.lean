def bdX12_isBegun_4 (y1 : Int) (σ : pm_M) (z2 : Int) (z3 : Int) : Option ((Int × Int) ⊕ (Int × Int)) :=
  if 3 ≤ (wr z3) then (some (.inl (z2, z3))) else (if (wr z2) = 0 then (pm_g (0 ≤ (wr z3) ∧ (wr z3) < 3) (if (wr (σ 14 (Int.toNat (wr z3)))) = (wr y1) then (pm_g (0 ≤ (wr (105 + (2 * z3))) ∧ (wr (105 + (2 * z3))) < 755) (if (wr (σ 25 (Int.toNat (wr (105 + (2 * z3)))))) ≤ 0 then (some (.inr (0, (z3 + 1)))) else (some (.inr (1, (z3 + 1)))))) else (some (.inr (0, (z3 + 1)))))) else (some (.inr (1, (z3 + 1)))))
set_option maxHeartbeats 4000000 in
set_option maxRecDepth 100000 in
theorem tbX12_isBegun_4 {lay0 lay' : List pm_S} {r : Option pm_V} {σ' : pm_M} (y1 : Int) (σ : pm_M) : ∀ (a : Int × Int) (e : (Int × Int) ⊕ (Int × Int)), (fun a => bdX12_isBegun_4 y1 σ a.1 a.2) a = some e → (∀ a, e = .inr a → (fun a => pm_J mX12_isBegun 0 0 lay0 r lay' σ' 4 [some (pv_r 0), some (pv_i y1), some (pv_i a.1), some (pv_i a.2)] [] LAYM σ) a) → (∀ a, e = .inl a → (fun a => pm_J mX12_isBegun 0 0 lay0 r lay' σ' 49 [none, none, some (pv_i a.1), none] [] LAYM σ) a) → (fun a => pm_J mX12_isBegun 0 0 lay0 r lay' σ' 4 [some (pv_r 0), some (pv_i y1), some (pv_i a.1), some (pv_i a.2)] [] LAYM σ) a := by
  intro a e h hc hx
  obtain ⟨z2, z3⟩ := a
  have h : bdX12_isBegun_4 y1 σ z2 z3 = some e := h
  unfold bdX12_isBegun_4 at h
  show pm_J mX12_isBegun 0 0 lay0 r lay' σ' 4 [some (pv_r 0), some (pv_i y1), some (pv_i z2), some (pv_i z3)] [] LAYM σ
  refine pr_iload_n dX12_isBegun_4 rfl ?_
  refine pr_iconst dX12_isBegun_5 ?_
  refine pr_icmp_ge (tgt := 49) dX12_isBegun_6 rfl (wr_eq (by decide) (by decide)) (by decide) (fun c_1 => ?_) (fun c_1 => ?_)
  · have h := pm_pos c_1 h
    refine pr_weak (L2 := [none, none, some (pv_i z2), none]) ⟨Or.inl rfl, Or.inl rfl, Or.inr rfl, Or.inl rfl, trivial⟩ ?_
    exact hx (z2, z3) (Option.some.inj h).symm
  · have h := pm_ng c_1 h
    refine pr_iload_n dX12_isBegun_9 rfl ?_
    refine pr_if_ne (tgt := 37) dX12_isBegun_10 rfl (by decide) (fun c_2 => ?_) (fun c_2 => ?_)
    · have h := pm_ng c_2 h
      refine pr_iconst dX12_isBegun_37 ?_
      refine pr_goto (tgt := 42) dX12_isBegun_38 (by decide) ?_
      refine pr_istore_n dX12_isBegun_42 (by decide) rfl ?_
      refine pr_iinc dX12_isBegun_43 rfl (by decide) rfl ?_
      refine pr_goto (tgt := 4) dX12_isBegun_46 (by decide) ?_
      refine pr_weak (L2 := [some (pv_r 0), some (pv_i y1), some (pv_i 1), some (pv_i (z3 + 1))]) ⟨Or.inr rfl, Or.inr rfl, Or.inr rfl, Or.inr rfl, trivial⟩ ?_
      exact hc (1, (z3 + 1)) (Option.some.inj h).symm
    · have h := pm_pos c_2 h
      refine pr_aload_n dX12_isBegun_13 rfl ?_
      refine pr_getR dX12_isBegun_14 lk_X12_49 lm_0 rfl ?_
      refine pr_iload_n dX12_isBegun_17 rfl ?_
      obtain ⟨g_3, h⟩ := pm_gs h
      refine pr_iald dX12_isBegun_18 lm_14 rfl g_3 ?_
      refine pr_iload_n dX12_isBegun_19 rfl ?_
      refine pr_icmp_ne (tgt := 41) dX12_isBegun_20 rfl rfl (by decide) (fun c_4 => ?_) (fun c_4 => ?_)
      · have h := pm_ng c_4 h
        refine pr_iconst dX12_isBegun_41 ?_
        refine pr_istore_n dX12_isBegun_42 (by decide) rfl ?_
        refine pr_iinc dX12_isBegun_43 rfl (by decide) rfl ?_
        refine pr_goto (tgt := 4) dX12_isBegun_46 (by decide) ?_
        refine pr_weak (L2 := [some (pv_r 0), some (pv_i y1), some (pv_i 0), some (pv_i (z3 + 1))]) ⟨Or.inr rfl, Or.inr rfl, Or.inr rfl, Or.inr rfl, trivial⟩ ?_
        exact hc (0, (z3 + 1)) (Option.some.inj h).symm
      · have h := pm_pos c_4 h
        refine pr_aload_n dX12_isBegun_23 rfl ?_
        refine pr_getR dX12_isBegun_24 lk_X12_86 lm_0 rfl ?_
        refine pr_bipush dX12_isBegun_27 (by decide) ?_
        refine pr_iconst dX12_isBegun_29 ?_
        refine pr_iload_n dX12_isBegun_30 rfl ?_
        refine pr_imul dX12_isBegun_31 ?_
        refine pr_iadd dX12_isBegun_32 ?_
        obtain ⟨g_5, h⟩ := pm_gs h
        refine pr_iald dX12_isBegun_33 lm_25 rfl g_5 ?_
        refine pr_if_le (tgt := 41) dX12_isBegun_34 rfl (by decide) (fun c_6 => ?_) (fun c_6 => ?_)
        · have h := pm_pos c_6 h
          refine pr_iconst dX12_isBegun_41 ?_
          refine pr_istore_n dX12_isBegun_42 (by decide) rfl ?_
          refine pr_iinc dX12_isBegun_43 rfl (by decide) rfl ?_
          refine pr_goto (tgt := 4) dX12_isBegun_46 (by decide) ?_
          refine pr_weak (L2 := [some (pv_r 0), some (pv_i y1), some (pv_i 0), some (pv_i (z3 + 1))]) ⟨Or.inr rfl, Or.inr rfl, Or.inr rfl, Or.inr rfl, trivial⟩ ?_
          exact hc (0, (z3 + 1)) (Option.some.inj h).symm
        · have h := pm_ng c_6 h
          refine pr_iconst dX12_isBegun_37 ?_
          refine pr_goto (tgt := 42) dX12_isBegun_38 (by decide) ?_
          refine pr_istore_n dX12_isBegun_42 (by decide) rfl ?_
          refine pr_iinc dX12_isBegun_43 rfl (by decide) rfl ?_
          refine pr_goto (tgt := 4) dX12_isBegun_46 (by decide) ?_
          refine pr_weak (L2 := [some (pv_r 0), some (pv_i y1), some (pv_i 1), some (pv_i (z3 + 1))]) ⟨Or.inr rfl, Or.inr rfl, Or.inr rfl, Or.inr rfl, trivial⟩ ?_
          exact hc (1, (z3 + 1)) (Option.some.inj h).symm
def fX12_isBegun (x1 : Int) (σ : pm_M) : Option (Int) :=
  (pm_it (fun a => bdX12_isBegun_4 x1 σ a.1 a.2) pm_fuel (0, 0)).bind fun v7 => pm_g (v7.1 = 0 ∨ v7.1 = 1) (some v7.1)
set_option maxHeartbeats 4000000 in
set_option maxRecDepth 100000 in
theorem tmX12_isBegun {x1 : Int} {σ : pm_M} {ρ : Int} (h : fX12_isBegun x1 σ = some ρ) : pm_C mX12_isBegun 0 0 [pv_r 0, pv_i x1] LAYM σ (some (pv_i ρ)) LAYM σ := by
  refine pm_C.of (by decide) rfl (Nat.le_of_ble_eq_true rfl) ?_
  show pm_J mX12_isBegun 0 0 LAYM (some (pv_i ρ)) LAYM σ 0 [some (pv_r 0), some (pv_i x1), none, none] [] LAYM σ
  unfold fX12_isBegun at h
  refine pr_iconst dX12_isBegun_0 ?_
  refine pr_istore_n dX12_isBegun_1 (by decide) rfl ?_
  refine pr_iconst dX12_isBegun_2 ?_
  refine pr_istore_n dX12_isBegun_3 (by decide) rfl ?_
  obtain ⟨v7, e8, h⟩ := pm_bs h
  refine pr_weak (L2 := [some (pv_r 0), some (pv_i x1), some (pv_i 0), some (pv_i 0)]) ⟨Or.inr rfl, Or.inr rfl, Or.inr rfl, Or.inr rfl, trivial⟩ ?_
  refine pm_it_J (α := Int × Int) (β := Int × Int) (f := fun a => bdX12_isBegun_4 x1 σ a.1 a.2) (P := fun a => pm_J mX12_isBegun 0 0 LAYM (some (pv_i ρ)) LAYM σ 4 [some (pv_r 0), some (pv_i x1), some (pv_i a.1), some (pv_i a.2)] [] LAYM σ) (Rx := fun a => pm_J mX12_isBegun 0 0 LAYM (some (pv_i ρ)) LAYM σ 49 [none, none, some (pv_i a.1), none] [] LAYM σ) (tbX12_isBegun_4 x1 σ) pm_fuel (0, 0) v7 e8 ?_
  show pm_J mX12_isBegun 0 0 LAYM (some (pv_i ρ)) LAYM σ 49 [none, none, some (pv_i v7.1), none] [] LAYM σ
  refine pr_iload_n dX12_isBegun_49 rfl ?_
  obtain ⟨g_9, h⟩ := pm_gs h
  have h := Option.some.inj h
  subst h
  exact pr_zret dX12_isBegun_50 rfl g_9
def fX12_wire (x1 : Int) (x2 : Int) (x3 : Int) (σ : pm_M) : Option (Int × pm_M) :=
  (fX12_isIn x1 (2 * (σ 0 16))).bind fun q1 => if (wr q1) = 0 then ((fX12_refuse (-1) σ).bind fun q4 => some (q4.1, q4.2)) else ((fX12_isIn x2 6).bind fun q6 => if (wr q6) = 0 then ((fX12_refuse (-1) σ).bind fun q21 => some (q21.1, q21.2)) else ((fX12_isBegun (Int.tdiv (wr x1) 2) σ).bind fun q9 => if (wr q9) = 0 then ((fX12_wrong x3 0 99).bind fun q12 => if (wr q12) = 0 then (pm_g (0 ≤ (wr ((6 * x1) + x2)) ∧ (wr ((6 * x1) + x2)) < 48) (pm_g (0 ≤ (wr ((6 * x1) + x2)) ∧ (wr ((6 * x1) + x2)) < 48) (some ((σ 12 (Int.toNat (wr ((6 * x1) + x2)))), (pm_up σ 12 (Int.toNat (wr ((6 * x1) + x2))) x3))))) else ((fX12_refuse q12 σ).bind fun q17 => some (q17.1, q17.2))) else ((fX12_refuse (-3) σ).bind fun q19 => some (q19.1, q19.2))))
set_option maxHeartbeats 4000000 in
set_option maxRecDepth 100000 in
theorem tmX12_wire {x1 : Int} {x2 : Int} {x3 : Int} {σ : pm_M} {ρ : Int × pm_M} (h : fX12_wire x1 x2 x3 σ = some ρ) : pm_C mX12_wire 1 23 [pv_r 0, pv_i x1, pv_i x2, pv_i x3] LAYM σ (some (pv_i ρ.1)) LAYM ρ.2 := by
  refine pm_C.of (by decide) rfl (Nat.le_of_ble_eq_true rfl) ?_
  show pm_J mX12_wire 1 23 LAYM (some (pv_i ρ.1)) LAYM ρ.2 0 [some (pv_r 0), some (pv_i x1), some (pv_i x2), some (pv_i x3), none, none] [] LAYM σ
  unfold fX12_wire at h
  refine pr_iload_n dX12_wire_0 rfl ?_
  refine pr_iconst dX12_wire_1 ?_
  refine pr_aload_n dX12_wire_2 rfl ?_
  refine pr_getI dX12_wire_3 lk_X12_129 lm_0 rfl ?_
  refine pr_imul dX12_wire_6 ?_
  obtain ⟨q1, e2, h⟩ := pm_bs h
  refine pr_callS (av := [pv_i x1, pv_i (2 * (σ 0 16))]) (S := []) dX12_wire_7 mk_X12_95 rfl rfl (Nat.le_of_ble_eq_true rfl) (by decide) (by decide) (Or.inl rfl) (tmX12_isIn e2) ?_
  refine pr_if_eq (tgt := 22) dX12_wire_10 rfl (by decide) (fun c_3 => ?_) (fun c_3 => ?_)
  · have h := pm_pos c_3 h
    refine pr_aload_n dX12_wire_22 rfl ?_
    refine pr_iconst dX12_wire_23 ?_
    obtain ⟨q4, e5, h⟩ := pm_bs h
    refine pr_callV (As := [pv_i (-1)]) (S := []) (t := 0) dX12_wire_24 mk_X12_103 lm_0 (ci := 12) (q := (RX12, TX12, 36)) rfl rfl rfl rfl (Nat.le_of_ble_eq_true rfl) (by decide) (by decide) (Or.inl rfl) (tmX12_refuse e5) ?_
    have h := Option.some.inj h
    subst h
    exact pr_iret dX12_wire_27 rfl
  · have h := pm_ng c_3 h
    refine pr_iload_n dX12_wire_13 rfl ?_
    refine pr_bipush dX12_wire_14 (by decide) ?_
    obtain ⟨q6, e7, h⟩ := pm_bs h
    refine pr_callS (av := [pv_i x2, pv_i 6]) (S := []) dX12_wire_16 mk_X12_95 rfl rfl (Nat.le_of_ble_eq_true rfl) (by decide) (by decide) (Or.inl rfl) (tmX12_isIn e7) ?_
    refine pr_if_ne (tgt := 28) dX12_wire_19 rfl (by decide) (fun c_8 => ?_) (fun c_8 => ?_)
    · have h := pm_ng c_8 h
      refine pr_aload_n dX12_wire_28 rfl ?_
      refine pr_iload_n dX12_wire_29 rfl ?_
      refine pr_iconst dX12_wire_30 ?_
      refine pr_idiv dX12_wire_31 rfl (wr_eq (by decide) (by decide)) (by decide) ?_
      obtain ⟨q9, e10, h⟩ := pm_bs h
      refine pr_callV (As := [pv_i (Int.tdiv (wr x1) 2)]) (S := []) (t := 0) dX12_wire_32 mk_X12_132 lm_0 (ci := 12) (q := (RX12, TX12, 36)) rfl rfl rfl rfl (Nat.le_of_ble_eq_true rfl) (by decide) (by decide) (Or.inl rfl) (tmX12_isBegun e10) ?_
      refine pr_if_eq (tgt := 45) dX12_wire_35 rfl (by decide) (fun c_11 => ?_) (fun c_11 => ?_)
      · have h := pm_pos c_11 h
        refine pr_iload_n dX12_wire_45 rfl ?_
        refine pr_iconst dX12_wire_46 ?_
        refine pr_bipush dX12_wire_47 (by decide) ?_
        obtain ⟨q12, e13, h⟩ := pm_bs h
        refine pr_callS (av := [pv_i x3, pv_i 0, pv_i 99]) (S := []) dX12_wire_49 mk_X12_99 rfl rfl (Nat.le_of_ble_eq_true rfl) (by decide) (by decide) (Or.inl rfl) (tmX12_wrong e13) ?_
        refine pr_istore dX12_wire_52 (by decide) rfl ?_
        refine pr_iload dX12_wire_54 rfl ?_
        refine pr_if_eq (tgt := 66) dX12_wire_56 rfl (by decide) (fun c_14 => ?_) (fun c_14 => ?_)
        · have h := pm_pos c_14 h
          refine pr_aload_n dX12_wire_66 rfl ?_
          refine pr_getR dX12_wire_67 lk_X12_43 lm_0 rfl ?_
          refine pr_bipush dX12_wire_70 (by decide) ?_
          refine pr_iload_n dX12_wire_72 rfl ?_
          refine pr_imul dX12_wire_73 ?_
          refine pr_iload_n dX12_wire_74 rfl ?_
          refine pr_iadd dX12_wire_75 ?_
          obtain ⟨g_15, h⟩ := pm_gs h
          refine pr_iald dX12_wire_76 lm_12 rfl g_15 ?_
          refine pr_istore dX12_wire_77 (by decide) rfl ?_
          refine pr_aload_n dX12_wire_79 rfl ?_
          refine pr_getR dX12_wire_80 lk_X12_43 lm_0 rfl ?_
          refine pr_bipush dX12_wire_83 (by decide) ?_
          refine pr_iload_n dX12_wire_85 rfl ?_
          refine pr_imul dX12_wire_86 ?_
          refine pr_iload_n dX12_wire_87 rfl ?_
          refine pr_iadd dX12_wire_88 ?_
          refine pr_iload_n dX12_wire_89 rfl ?_
          obtain ⟨g_16, h⟩ := pm_gs h
          refine pr_iast dX12_wire_90 lm_12 rfl g_16 ?_
          refine pr_iload dX12_wire_91 rfl ?_
          have h := Option.some.inj h
          subst h
          exact pr_iret dX12_wire_93 rfl
        · have h := pm_ng c_14 h
          refine pr_aload_n dX12_wire_59 rfl ?_
          refine pr_iload dX12_wire_60 rfl ?_
          obtain ⟨q17, e18, h⟩ := pm_bs h
          refine pr_callV (As := [pv_i q12]) (S := []) (t := 0) dX12_wire_62 mk_X12_103 lm_0 (ci := 12) (q := (RX12, TX12, 36)) rfl rfl rfl rfl (Nat.le_of_ble_eq_true rfl) (by decide) (by decide) (Or.inl rfl) (tmX12_refuse e18) ?_
          have h := Option.some.inj h
          subst h
          exact pr_iret dX12_wire_65 rfl
      · have h := pm_ng c_11 h
        refine pr_aload_n dX12_wire_38 rfl ?_
        refine pr_bipush dX12_wire_39 (by decide) ?_
        obtain ⟨q19, e20, h⟩ := pm_bs h
        refine pr_callV (As := [pv_i (-3)]) (S := []) (t := 0) dX12_wire_41 mk_X12_103 lm_0 (ci := 12) (q := (RX12, TX12, 36)) rfl rfl rfl rfl (Nat.le_of_ble_eq_true rfl) (by decide) (by decide) (Or.inl rfl) (tmX12_refuse e20) ?_
        have h := Option.some.inj h
        subst h
        exact pr_iret dX12_wire_44 rfl
    · have h := pm_pos c_8 h
      refine pr_aload_n dX12_wire_22 rfl ?_
      refine pr_iconst dX12_wire_23 ?_
      obtain ⟨q21, e22, h⟩ := pm_bs h
      refine pr_callV (As := [pv_i (-1)]) (S := []) (t := 0) dX12_wire_24 mk_X12_103 lm_0 (ci := 12) (q := (RX12, TX12, 36)) rfl rfl rfl rfl (Nat.le_of_ble_eq_true rfl) (by decide) (by decide) (Or.inl rfl) (tmX12_refuse e22) ?_
      have h := Option.some.inj h
      subst h
      exact pr_iret dX12_wire_27 rfl
def fX12_mouldOf (x1 : Int) (x2 : Int) (σ : pm_M) : Option (Int × pm_M) :=
  (fX12_isIn x1 (2 * (σ 0 16))).bind fun q1 => if (wr q1) = 0 then ((fX12_refuse (-1) σ).bind fun q12 => some (q12.1, q12.2)) else ((fX12_isIn x2 7).bind fun q4 => if (wr q4) = 0 then ((fX12_refuse (-2) σ).bind fun q10 => some (q10.1, q10.2)) else (if (wr x2) = 6 then (pm_g (0 ≤ (wr x1) ∧ (wr x1) < 8) (some ((σ 13 (Int.toNat (wr x1))), σ))) else (pm_g (0 ≤ (wr ((6 * x1) + x2)) ∧ (wr ((6 * x1) + x2)) < 48) (some ((σ 12 (Int.toNat (wr ((6 * x1) + x2)))), σ)))))
set_option maxHeartbeats 4000000 in
set_option maxRecDepth 100000 in
theorem tmX12_mouldOf {x1 : Int} {x2 : Int} {σ : pm_M} {ρ : Int × pm_M} (h : fX12_mouldOf x1 x2 σ = some ρ) : pm_C mX12_mouldOf 1 21 [pv_r 0, pv_i x1, pv_i x2] LAYM σ (some (pv_i ρ.1)) LAYM ρ.2 := by
  refine pm_C.of (by decide) rfl (Nat.le_of_ble_eq_true rfl) ?_
  show pm_J mX12_mouldOf 1 21 LAYM (some (pv_i ρ.1)) LAYM ρ.2 0 [some (pv_r 0), some (pv_i x1), some (pv_i x2)] [] LAYM σ
  unfold fX12_mouldOf at h
  refine pr_iload_n dX12_mouldOf_0 rfl ?_
  refine pr_iconst dX12_mouldOf_1 ?_
  refine pr_aload_n dX12_mouldOf_2 rfl ?_
  refine pr_getI dX12_mouldOf_3 lk_X12_129 lm_0 rfl ?_
  refine pr_imul dX12_mouldOf_6 ?_
  obtain ⟨q1, e2, h⟩ := pm_bs h
  refine pr_callS (av := [pv_i x1, pv_i (2 * (σ 0 16))]) (S := []) dX12_mouldOf_7 mk_X12_95 rfl rfl (Nat.le_of_ble_eq_true rfl) (by decide) (by decide) (Or.inl rfl) (tmX12_isIn e2) ?_
  refine pr_if_ne (tgt := 19) dX12_mouldOf_10 rfl (by decide) (fun c_3 => ?_) (fun c_3 => ?_)
  · have h := pm_ng c_3 h
    refine pr_iload_n dX12_mouldOf_19 rfl ?_
    refine pr_bipush dX12_mouldOf_20 (by decide) ?_
    obtain ⟨q4, e5, h⟩ := pm_bs h
    refine pr_callS (av := [pv_i x2, pv_i 7]) (S := []) dX12_mouldOf_22 mk_X12_95 rfl rfl (Nat.le_of_ble_eq_true rfl) (by decide) (by decide) (Or.inl rfl) (tmX12_isIn e5) ?_
    refine pr_if_ne (tgt := 35) dX12_mouldOf_25 rfl (by decide) (fun c_6 => ?_) (fun c_6 => ?_)
    · have h := pm_ng c_6 h
      refine pr_iload_n dX12_mouldOf_35 rfl ?_
      refine pr_bipush dX12_mouldOf_36 (by decide) ?_
      refine pr_icmp_ne (tgt := 50) dX12_mouldOf_38 rfl (wr_eq (by decide) (by decide)) (by decide) (fun c_7 => ?_) (fun c_7 => ?_)
      · have h := pm_ng c_7 h
        refine pr_aload_n dX12_mouldOf_50 rfl ?_
        refine pr_getR dX12_mouldOf_51 lk_X12_43 lm_0 rfl ?_
        refine pr_bipush dX12_mouldOf_54 (by decide) ?_
        refine pr_iload_n dX12_mouldOf_56 rfl ?_
        refine pr_imul dX12_mouldOf_57 ?_
        refine pr_iload_n dX12_mouldOf_58 rfl ?_
        refine pr_iadd dX12_mouldOf_59 ?_
        obtain ⟨g_8, h⟩ := pm_gs h
        refine pr_iald dX12_mouldOf_60 lm_12 rfl g_8 ?_
        have h := Option.some.inj h
        subst h
        exact pr_iret dX12_mouldOf_61 rfl
      · have h := pm_pos c_7 h
        refine pr_aload_n dX12_mouldOf_41 rfl ?_
        refine pr_getR dX12_mouldOf_42 lk_X12_46 lm_0 rfl ?_
        refine pr_iload_n dX12_mouldOf_45 rfl ?_
        obtain ⟨g_9, h⟩ := pm_gs h
        refine pr_iald dX12_mouldOf_46 lm_13 rfl g_9 ?_
        refine pr_goto (tgt := 61) dX12_mouldOf_47 (by decide) ?_
        have h := Option.some.inj h
        subst h
        exact pr_iret dX12_mouldOf_61 rfl
    · have h := pm_pos c_6 h
      refine pr_aload_n dX12_mouldOf_28 rfl ?_
      refine pr_bipush dX12_mouldOf_29 (by decide) ?_
      obtain ⟨q10, e11, h⟩ := pm_bs h
      refine pr_callV (As := [pv_i (-2)]) (S := []) (t := 0) dX12_mouldOf_31 mk_X12_103 lm_0 (ci := 12) (q := (RX12, TX12, 36)) rfl rfl rfl rfl (Nat.le_of_ble_eq_true rfl) (by decide) (by decide) (Or.inl rfl) (tmX12_refuse e11) ?_
      have h := Option.some.inj h
      subst h
      exact pr_iret dX12_mouldOf_34 rfl
  · have h := pm_pos c_3 h
    refine pr_aload_n dX12_mouldOf_13 rfl ?_
    refine pr_iconst dX12_mouldOf_14 ?_
    obtain ⟨q12, e13, h⟩ := pm_bs h
    refine pr_callV (As := [pv_i (-1)]) (S := []) (t := 0) dX12_mouldOf_15 mk_X12_103 lm_0 (ci := 12) (q := (RX12, TX12, 36)) rfl rfl rfl rfl (Nat.le_of_ble_eq_true rfl) (by decide) (by decide) (Or.inl rfl) (tmX12_refuse e13) ?_
    have h := Option.some.inj h
    subst h
    exact pr_iret dX12_mouldOf_18 rfl
def bdX12_vat_53 (y1 : Int) (y2 : Int) (σ : pm_M) (z3 : Int) (z4 : Int) : Option ((Int × Int) ⊕ (Int × Int)) :=
  if 3 ≤ (wr z4) then (some (.inl (z3, z4))) else (if (wr z3) = 0 then (if (wr z4) = (wr y1) then (some (.inr (0, (z4 + 1)))) else (if (wr y2) < 0 then (some (.inr (0, (z4 + 1)))) else (pm_g (0 ≤ (wr z4) ∧ (wr z4) < 3) (if (wr (σ 14 (Int.toNat (wr z4)))) = (wr y2) then (some (.inr (1, (z4 + 1)))) else (some (.inr (0, (z4 + 1)))))))) else (some (.inr (1, (z4 + 1)))))
set_option maxHeartbeats 4000000 in
set_option maxRecDepth 100000 in
theorem tbX12_vat_53 {lay0 lay' : List pm_S} {r : Option pm_V} {σ' : pm_M} (y1 : Int) (y2 : Int) (σ : pm_M) : ∀ (a : Int × Int) (e : (Int × Int) ⊕ (Int × Int)), (fun a => bdX12_vat_53 y1 y2 σ a.1 a.2) a = some e → (∀ a, e = .inr a → (fun a => pm_J mX12_vat 1 21 lay0 r lay' σ' 53 [some (pv_r 0), some (pv_i y1), some (pv_i y2), some (pv_i a.1), some (pv_i a.2)] [] LAYM σ) a) → (∀ a, e = .inl a → (fun a => pm_J mX12_vat 1 21 lay0 r lay' σ' 96 [some (pv_r 0), some (pv_i y1), some (pv_i y2), some (pv_i a.1), none] [] LAYM σ) a) → (fun a => pm_J mX12_vat 1 21 lay0 r lay' σ' 53 [some (pv_r 0), some (pv_i y1), some (pv_i y2), some (pv_i a.1), some (pv_i a.2)] [] LAYM σ) a := by
  intro a e h hc hx
  obtain ⟨z3, z4⟩ := a
  have h : bdX12_vat_53 y1 y2 σ z3 z4 = some e := h
  unfold bdX12_vat_53 at h
  show pm_J mX12_vat 1 21 lay0 r lay' σ' 53 [some (pv_r 0), some (pv_i y1), some (pv_i y2), some (pv_i z3), some (pv_i z4)] [] LAYM σ
  refine pr_iload dX12_vat_53 rfl ?_
  refine pr_iconst dX12_vat_55 ?_
  refine pr_icmp_ge (tgt := 96) dX12_vat_56 rfl (wr_eq (by decide) (by decide)) (by decide) (fun c_9 => ?_) (fun c_9 => ?_)
  · have h := pm_pos c_9 h
    refine pr_weak (L2 := [some (pv_r 0), some (pv_i y1), some (pv_i y2), some (pv_i z3), none]) ⟨Or.inr rfl, Or.inr rfl, Or.inr rfl, Or.inr rfl, Or.inl rfl, trivial⟩ ?_
    exact hx (z3, z4) (Option.some.inj h).symm
  · have h := pm_ng c_9 h
    refine pr_iload_n dX12_vat_59 rfl ?_
    refine pr_if_ne (tgt := 84) dX12_vat_60 rfl (by decide) (fun c_10 => ?_) (fun c_10 => ?_)
    · have h := pm_ng c_10 h
      refine pr_iconst dX12_vat_84 ?_
      refine pr_goto (tgt := 89) dX12_vat_85 (by decide) ?_
      refine pr_istore_n dX12_vat_89 (by decide) rfl ?_
      refine pr_iinc dX12_vat_90 rfl (by decide) rfl ?_
      refine pr_goto (tgt := 53) dX12_vat_93 (by decide) ?_
      refine pr_weak (L2 := [some (pv_r 0), some (pv_i y1), some (pv_i y2), some (pv_i 1), some (pv_i (z4 + 1))]) ⟨Or.inr rfl, Or.inr rfl, Or.inr rfl, Or.inr rfl, Or.inr rfl, trivial⟩ ?_
      exact hc (1, (z4 + 1)) (Option.some.inj h).symm
    · have h := pm_pos c_10 h
      refine pr_iload dX12_vat_63 rfl ?_
      refine pr_iload_n dX12_vat_65 rfl ?_
      refine pr_icmp_eq (tgt := 88) dX12_vat_66 rfl rfl (by decide) (fun c_11 => ?_) (fun c_11 => ?_)
      · have h := pm_pos c_11 h
        refine pr_iconst dX12_vat_88 ?_
        refine pr_istore_n dX12_vat_89 (by decide) rfl ?_
        refine pr_iinc dX12_vat_90 rfl (by decide) rfl ?_
        refine pr_goto (tgt := 53) dX12_vat_93 (by decide) ?_
        refine pr_weak (L2 := [some (pv_r 0), some (pv_i y1), some (pv_i y2), some (pv_i 0), some (pv_i (z4 + 1))]) ⟨Or.inr rfl, Or.inr rfl, Or.inr rfl, Or.inr rfl, Or.inr rfl, trivial⟩ ?_
        exact hc (0, (z4 + 1)) (Option.some.inj h).symm
      · have h := pm_ng c_11 h
        refine pr_iload_n dX12_vat_69 rfl ?_
        refine pr_if_lt (tgt := 88) dX12_vat_70 rfl (by decide) (fun c_12 => ?_) (fun c_12 => ?_)
        · have h := pm_pos c_12 h
          refine pr_iconst dX12_vat_88 ?_
          refine pr_istore_n dX12_vat_89 (by decide) rfl ?_
          refine pr_iinc dX12_vat_90 rfl (by decide) rfl ?_
          refine pr_goto (tgt := 53) dX12_vat_93 (by decide) ?_
          refine pr_weak (L2 := [some (pv_r 0), some (pv_i y1), some (pv_i y2), some (pv_i 0), some (pv_i (z4 + 1))]) ⟨Or.inr rfl, Or.inr rfl, Or.inr rfl, Or.inr rfl, Or.inr rfl, trivial⟩ ?_
          exact hc (0, (z4 + 1)) (Option.some.inj h).symm
        · have h := pm_ng c_12 h
          refine pr_aload_n dX12_vat_73 rfl ?_
          refine pr_getR dX12_vat_74 lk_X12_49 lm_0 rfl ?_
          refine pr_iload dX12_vat_77 rfl ?_
          obtain ⟨g_13, h⟩ := pm_gs h
          refine pr_iald dX12_vat_79 lm_14 rfl g_13 ?_
          refine pr_iload_n dX12_vat_80 rfl ?_
          refine pr_icmp_ne (tgt := 88) dX12_vat_81 rfl rfl (by decide) (fun c_14 => ?_) (fun c_14 => ?_)
          · have h := pm_ng c_14 h
            refine pr_iconst dX12_vat_88 ?_
            refine pr_istore_n dX12_vat_89 (by decide) rfl ?_
            refine pr_iinc dX12_vat_90 rfl (by decide) rfl ?_
            refine pr_goto (tgt := 53) dX12_vat_93 (by decide) ?_
            refine pr_weak (L2 := [some (pv_r 0), some (pv_i y1), some (pv_i y2), some (pv_i 0), some (pv_i (z4 + 1))]) ⟨Or.inr rfl, Or.inr rfl, Or.inr rfl, Or.inr rfl, Or.inr rfl, trivial⟩ ?_
            exact hc (0, (z4 + 1)) (Option.some.inj h).symm
          · have h := pm_pos c_14 h
            refine pr_iconst dX12_vat_84 ?_
            refine pr_goto (tgt := 89) dX12_vat_85 (by decide) ?_
            refine pr_istore_n dX12_vat_89 (by decide) rfl ?_
            refine pr_iinc dX12_vat_90 rfl (by decide) rfl ?_
            refine pr_goto (tgt := 53) dX12_vat_93 (by decide) ?_
            refine pr_weak (L2 := [some (pv_r 0), some (pv_i y1), some (pv_i y2), some (pv_i 1), some (pv_i (z4 + 1))]) ⟨Or.inr rfl, Or.inr rfl, Or.inr rfl, Or.inr rfl, Or.inr rfl, trivial⟩ ?_
            exact hc (1, (z4 + 1)) (Option.some.inj h).symm
def jnX12_vat_49 (w1 : Int) (w2 : Int) (u0 : Int) (σ : pm_M) : Option (Int × pm_M) :=
  (pm_it (fun a => bdX12_vat_53 w1 w2 σ a.1 a.2) pm_fuel (u0, 0)).bind fun v15 => if (wr v15.1) = 0 then (pm_g (0 ≤ (wr w1) ∧ (wr w1) < 3) (some (1, (pm_up σ 14 (Int.toNat (wr w1)) w2)))) else ((fX12_refuse (-3) σ).bind fun q19 => some (q19.1, q19.2))
set_option maxHeartbeats 4000000 in
set_option maxRecDepth 100000 in
theorem tjX12_vat_49 {lay0 : List pm_S} {w1 : Int} {w2 : Int} {u0 : Int} {σ : pm_M} {ρ : Int × pm_M} (h : jnX12_vat_49 w1 w2 u0 σ = some ρ) : pm_J mX12_vat 1 21 lay0 (some (pv_i ρ.1)) LAYM ρ.2 49 [some (pv_r 0), some (pv_i w1), some (pv_i w2), none, none] [pv_i u0] LAYM σ := by
  unfold jnX12_vat_49 at h
  refine pr_istore_n dX12_vat_49 (by decide) rfl ?_
  refine pr_iconst dX12_vat_50 ?_
  refine pr_istore dX12_vat_51 (by decide) rfl ?_
  obtain ⟨v15, e16, h⟩ := pm_bs h
  refine pr_weak (L2 := [some (pv_r 0), some (pv_i w1), some (pv_i w2), some (pv_i u0), some (pv_i 0)]) ⟨Or.inr rfl, Or.inr rfl, Or.inr rfl, Or.inr rfl, Or.inr rfl, trivial⟩ ?_
  refine pm_it_J (α := Int × Int) (β := Int × Int) (f := fun a => bdX12_vat_53 w1 w2 σ a.1 a.2) (P := fun a => pm_J mX12_vat 1 21 lay0 (some (pv_i ρ.1)) LAYM ρ.2 53 [some (pv_r 0), some (pv_i w1), some (pv_i w2), some (pv_i a.1), some (pv_i a.2)] [] LAYM σ) (Rx := fun a => pm_J mX12_vat 1 21 lay0 (some (pv_i ρ.1)) LAYM ρ.2 96 [some (pv_r 0), some (pv_i w1), some (pv_i w2), some (pv_i a.1), none] [] LAYM σ) (tbX12_vat_53 w1 w2 σ) pm_fuel (u0, 0) v15 e16 ?_
  show pm_J mX12_vat 1 21 lay0 (some (pv_i ρ.1)) LAYM ρ.2 96 [some (pv_r 0), some (pv_i w1), some (pv_i w2), some (pv_i v15.1), none] [] LAYM σ
  refine pr_iload_n dX12_vat_96 rfl ?_
  refine pr_if_eq (tgt := 107) dX12_vat_97 rfl (by decide) (fun c_17 => ?_) (fun c_17 => ?_)
  · have h := pm_pos c_17 h
    refine pr_aload_n dX12_vat_107 rfl ?_
    refine pr_getR dX12_vat_108 lk_X12_49 lm_0 rfl ?_
    refine pr_iload_n dX12_vat_111 rfl ?_
    refine pr_iload_n dX12_vat_112 rfl ?_
    obtain ⟨g_18, h⟩ := pm_gs h
    refine pr_iast dX12_vat_113 lm_14 rfl g_18 ?_
    refine pr_iconst dX12_vat_114 ?_
    have h := Option.some.inj h
    subst h
    exact pr_iret dX12_vat_115 rfl
  · have h := pm_ng c_17 h
    refine pr_aload_n dX12_vat_100 rfl ?_
    refine pr_bipush dX12_vat_101 (by decide) ?_
    obtain ⟨q19, e20, h⟩ := pm_bs h
    refine pr_callV (As := [pv_i (-3)]) (S := []) (t := 0) dX12_vat_103 mk_X12_103 lm_0 (ci := 12) (q := (RX12, TX12, 36)) rfl rfl rfl rfl (Nat.le_of_ble_eq_true rfl) (by decide) (by decide) (Or.inl rfl) (tmX12_refuse e20) ?_
    have h := Option.some.inj h
    subst h
    exact pr_iret dX12_vat_106 rfl
def jnX12_vat_30 (w1 : Int) (w2 : Int) (σ : pm_M) : Option (Int × pm_M) :=
  pm_g (0 ≤ (wr (105 + (2 * w1))) ∧ (wr (105 + (2 * w1))) < 755) (if (wr (σ 25 (Int.toNat (wr (105 + (2 * w1)))))) ≤ 0 then (jnX12_vat_49 w1 w2 0 σ) else (jnX12_vat_49 w1 w2 1 σ))
set_option maxHeartbeats 4000000 in
set_option maxRecDepth 100000 in
theorem tjX12_vat_30 {lay0 : List pm_S} {w1 : Int} {w2 : Int} {σ : pm_M} {ρ : Int × pm_M} (h : jnX12_vat_30 w1 w2 σ = some ρ) : pm_J mX12_vat 1 21 lay0 (some (pv_i ρ.1)) LAYM ρ.2 30 [some (pv_r 0), some (pv_i w1), some (pv_i w2), none, none] [] LAYM σ := by
  unfold jnX12_vat_30 at h
  refine pr_aload_n dX12_vat_30 rfl ?_
  refine pr_getR dX12_vat_31 lk_X12_86 lm_0 rfl ?_
  refine pr_bipush dX12_vat_34 (by decide) ?_
  refine pr_iconst dX12_vat_36 ?_
  refine pr_iload_n dX12_vat_37 rfl ?_
  refine pr_imul dX12_vat_38 ?_
  refine pr_iadd dX12_vat_39 ?_
  obtain ⟨g_7, h⟩ := pm_gs h
  refine pr_iald dX12_vat_40 lm_25 rfl g_7 ?_
  refine pr_if_le (tgt := 48) dX12_vat_41 rfl (by decide) (fun c_8 => ?_) (fun c_8 => ?_)
  · have h := pm_pos c_8 h
    refine pr_iconst dX12_vat_48 ?_
    refine pr_weak (L2 := [some (pv_r 0), some (pv_i w1), some (pv_i w2), none, none]) ⟨Or.inr rfl, Or.inr rfl, Or.inr rfl, Or.inl rfl, Or.inl rfl, trivial⟩ ?_
    exact tjX12_vat_49 h
  · have h := pm_ng c_8 h
    refine pr_iconst dX12_vat_44 ?_
    refine pr_goto (tgt := 49) dX12_vat_45 (by decide) ?_
    refine pr_weak (L2 := [some (pv_r 0), some (pv_i w1), some (pv_i w2), none, none]) ⟨Or.inr rfl, Or.inr rfl, Or.inr rfl, Or.inl rfl, Or.inl rfl, trivial⟩ ?_
    exact tjX12_vat_49 h
def fX12_vat (x1 : Int) (x2 : Int) (σ : pm_M) : Option (Int × pm_M) :=
  (fX12_isIn x1 3).bind fun q1 => if (wr q1) = 0 then ((fX12_refuse (-1) σ).bind fun q4 => some (q4.1, q4.2)) else (if (wr x2) = (-1) then (jnX12_vat_30 x1 x2 σ) else ((fX12_isIn x2 (σ 0 16)).bind fun q21 => if (wr q21) = 0 then ((fX12_refuse (-1) σ).bind fun q24 => some (q24.1, q24.2)) else (jnX12_vat_30 x1 x2 σ)))
set_option maxHeartbeats 4000000 in
set_option maxRecDepth 100000 in
theorem tmX12_vat {x1 : Int} {x2 : Int} {σ : pm_M} {ρ : Int × pm_M} (h : fX12_vat x1 x2 σ = some ρ) : pm_C mX12_vat 1 21 [pv_r 0, pv_i x1, pv_i x2] LAYM σ (some (pv_i ρ.1)) LAYM ρ.2 := by
  refine pm_C.of (by decide) rfl (Nat.le_of_ble_eq_true rfl) ?_
  show pm_J mX12_vat 1 21 LAYM (some (pv_i ρ.1)) LAYM ρ.2 0 [some (pv_r 0), some (pv_i x1), some (pv_i x2), none, none] [] LAYM σ
  unfold fX12_vat at h
  refine pr_iload_n dX12_vat_0 rfl ?_
  refine pr_iconst dX12_vat_1 ?_
  obtain ⟨q1, e2, h⟩ := pm_bs h
  refine pr_callS (av := [pv_i x1, pv_i 3]) (S := []) dX12_vat_2 mk_X12_95 rfl rfl (Nat.le_of_ble_eq_true rfl) (by decide) (by decide) (Or.inl rfl) (tmX12_isIn e2) ?_
  refine pr_if_eq (tgt := 24) dX12_vat_5 rfl (by decide) (fun c_3 => ?_) (fun c_3 => ?_)
  · have h := pm_pos c_3 h
    refine pr_aload_n dX12_vat_24 rfl ?_
    refine pr_iconst dX12_vat_25 ?_
    obtain ⟨q4, e5, h⟩ := pm_bs h
    refine pr_callV (As := [pv_i (-1)]) (S := []) (t := 0) dX12_vat_26 mk_X12_103 lm_0 (ci := 12) (q := (RX12, TX12, 36)) rfl rfl rfl rfl (Nat.le_of_ble_eq_true rfl) (by decide) (by decide) (Or.inl rfl) (tmX12_refuse e5) ?_
    have h := Option.some.inj h
    subst h
    exact pr_iret dX12_vat_29 rfl
  · have h := pm_ng c_3 h
    refine pr_iload_n dX12_vat_8 rfl ?_
    refine pr_iconst dX12_vat_9 ?_
    refine pr_icmp_eq (tgt := 30) dX12_vat_10 rfl (wr_eq (by decide) (by decide)) (by decide) (fun c_6 => ?_) (fun c_6 => ?_)
    · have h := pm_pos c_6 h
      refine pr_weak (L2 := [some (pv_r 0), some (pv_i x1), some (pv_i x2), none, none]) ⟨Or.inr rfl, Or.inr rfl, Or.inr rfl, Or.inl rfl, Or.inl rfl, trivial⟩ ?_
      exact tjX12_vat_30 h
    · have h := pm_ng c_6 h
      refine pr_iload_n dX12_vat_13 rfl ?_
      refine pr_aload_n dX12_vat_14 rfl ?_
      refine pr_getI dX12_vat_15 lk_X12_129 lm_0 rfl ?_
      obtain ⟨q21, e22, h⟩ := pm_bs h
      refine pr_callS (av := [pv_i x2, pv_i (σ 0 16)]) (S := []) dX12_vat_18 mk_X12_95 rfl rfl (Nat.le_of_ble_eq_true rfl) (by decide) (by decide) (Or.inl rfl) (tmX12_isIn e22) ?_
      refine pr_if_ne (tgt := 30) dX12_vat_21 rfl (by decide) (fun c_23 => ?_) (fun c_23 => ?_)
      · have h := pm_ng c_23 h
        refine pr_weak (L2 := [some (pv_r 0), some (pv_i x1), some (pv_i x2), none, none]) ⟨Or.inr rfl, Or.inr rfl, Or.inr rfl, Or.inl rfl, Or.inl rfl, trivial⟩ ?_
        exact tjX12_vat_30 h
      · have h := pm_pos c_23 h
        refine pr_aload_n dX12_vat_24 rfl ?_
        refine pr_iconst dX12_vat_25 ?_
        obtain ⟨q24, e25, h⟩ := pm_bs h
        refine pr_callV (As := [pv_i (-1)]) (S := []) (t := 0) dX12_vat_26 mk_X12_103 lm_0 (ci := 12) (q := (RX12, TX12, 36)) rfl rfl rfl rfl (Nat.le_of_ble_eq_true rfl) (by decide) (by decide) (Or.inl rfl) (tmX12_refuse e25) ?_
        have h := Option.some.inj h
        subst h
        exact pr_iret dX12_vat_29 rfl
