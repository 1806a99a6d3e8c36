def bdX12_when_24 (y1 : Int) (z3 : Int) (σ : pm_M) : Option ((Int × pm_M) ⊕ (Int × pm_M)) :=
  if 240 ≤ (wr z3) then (some (.inl (z3, σ))) else ((fX12_dried σ).bind fun q7 => if (wr y1) ≤ (wr q7) then (some (.inl (z3, σ))) else (if 2400 ≤ (wr (σ 25 (Int.toNat 751))) then (some (.inl (z3, σ))) else ((fX12_hour σ).bind fun q11 => some (.inr ((z3 + 1), q11)))))
set_option maxHeartbeats 4000000 in
set_option maxRecDepth 100000 in
theorem tbX12_when_24 {lay0 lay' : List pm_S} {r : Option pm_V} {σ' : pm_M} (y1 : Int) : ∀ (a : Int × pm_M) (e : (Int × pm_M) ⊕ (Int × pm_M)), (fun a => bdX12_when_24 y1 a.1 a.2) a = some e → (∀ a, e = .inr a → (fun a => pm_J mX12_when 5 119 lay0 r lay' σ' 24 [some (pv_r 0), some (pv_i y1), none, some (pv_i a.1)] [] LAYM a.2) a) → (∀ a, e = .inl a → (fun a => pm_J mX12_when 5 119 lay0 r lay' σ' 63 [some (pv_r 0), some (pv_i y1), none, none] [] LAYM a.2) a) → (fun a => pm_J mX12_when 5 119 lay0 r lay' σ' 24 [some (pv_r 0), some (pv_i y1), none, some (pv_i a.1)] [] LAYM a.2) a := by
  intro a e h hc hx
  obtain ⟨z3, σ⟩ := a
  have h : bdX12_when_24 y1 z3 σ = some e := h
  unfold bdX12_when_24 at h
  show pm_J mX12_when 5 119 lay0 r lay' σ' 24 [some (pv_r 0), some (pv_i y1), none, some (pv_i z3)] [] LAYM σ
  refine pr_iload_n dX12_when_24 rfl ?_
  refine pr_sipush dX12_when_25 (by decide) ?_
  refine pr_icmp_ge (tgt := 63) dX12_when_28 rfl (wr_eq (by decide) (by decide)) (by decide) (fun c_6 => ?_) (fun c_6 => ?_)
  · have h := pm_pos c_6 h
    refine pr_weak (L2 := [some (pv_r 0), some (pv_i y1), none, none]) ⟨Or.inr rfl, Or.inr rfl, Or.inl rfl, Or.inl rfl, trivial⟩ ?_
    exact hx (z3, σ) (Option.some.inj h).symm
  · have h := pm_ng c_6 h
    refine pr_aload_n dX12_when_31 rfl ?_
    obtain ⟨q7, e8, h⟩ := pm_bs h
    refine pr_callV (As := []) (S := []) (t := 0) dX12_when_32 mk_X12_202 lm_0 (ci := 12) (q := (RX12, TX12, 36)) rfl rfl rfl rfl (Nat.le_of_ble_eq_true rfl) (by decide) (by decide) (Or.inl rfl) (tmX12_dried e8) ?_
    refine pr_iload_n dX12_when_35 rfl ?_
    refine pr_icmp_ge (tgt := 63) dX12_when_36 rfl rfl (by decide) (fun c_9 => ?_) (fun c_9 => ?_)
    · have h := pm_pos c_9 h
      refine pr_weak (L2 := [some (pv_r 0), some (pv_i y1), none, none]) ⟨Or.inr rfl, Or.inr rfl, Or.inl rfl, Or.inl rfl, trivial⟩ ?_
      exact hx (z3, σ) (Option.some.inj h).symm
    · have h := pm_ng c_9 h
      refine pr_aload_n dX12_when_39 rfl ?_
      refine pr_getR dX12_when_40 lk_X12_86 lm_0 rfl ?_
      refine pr_sipush dX12_when_43 (by decide) ?_
      refine pr_iald dX12_when_46 lm_25 (wr_eq (by decide) (by decide)) ⟨by decide, by decide⟩ ?_
      refine pr_sipush dX12_when_47 (by decide) ?_
      refine pr_icmp_ge (tgt := 63) dX12_when_50 rfl (wr_eq (by decide) (by decide)) (by decide) (fun c_10 => ?_) (fun c_10 => ?_)
      · have h := pm_pos c_10 h
        refine pr_weak (L2 := [some (pv_r 0), some (pv_i y1), none, none]) ⟨Or.inr rfl, Or.inr rfl, Or.inl rfl, Or.inl rfl, trivial⟩ ?_
        exact hx (z3, σ) (Option.some.inj h).symm
      · have h := pm_ng c_10 h
        refine pr_aload_n dX12_when_53 rfl ?_
        obtain ⟨q11, e12, h⟩ := pm_bs h
        refine pr_callV (As := []) (S := []) (t := 0) dX12_when_54 mk_X12_196 lm_0 (ci := 12) (q := (RX12, TX12, 36)) rfl rfl rfl rfl (Nat.le_of_ble_eq_true rfl) (by decide) (by decide) (Or.inl rfl) (tmX12_hour e12) ?_
        refine pr_iinc dX12_when_57 rfl (by decide) rfl ?_
        refine pr_goto (tgt := 24) dX12_when_60 (by decide) ?_
        refine pr_weak (L2 := [some (pv_r 0), some (pv_i y1), none, some (pv_i (z3 + 1))]) ⟨Or.inr rfl, Or.inr rfl, Or.inl rfl, Or.inr rfl, trivial⟩ ?_
        exact hc ((z3 + 1), q11) (Option.some.inj h).symm
def jnX12_when_63 (w1 : Int) (σ : pm_M) : Option (Int × pm_M) :=
  (fX12_dried σ).bind fun q15 => if (wr q15) < (wr w1) then ((fX12_ends σ).bind fun q18 => some ((-9), q18)) else ((fX12_ends σ).bind fun q20 => some ((σ 25 (Int.toNat 751)), q20))
set_option maxHeartbeats 4000000 in
set_option maxRecDepth 100000 in
theorem tjX12_when_63 {lay0 : List pm_S} {w1 : Int} {σ : pm_M} {ρ : Int × pm_M} (h : jnX12_when_63 w1 σ = some ρ) : pm_J mX12_when 5 119 lay0 (some (pv_i ρ.1)) LAYM ρ.2 63 [some (pv_r 0), some (pv_i w1), none, none] [] LAYM σ := by
  unfold jnX12_when_63 at h
  refine pr_aload_n dX12_when_63 rfl ?_
  obtain ⟨q15, e16, h⟩ := pm_bs h
  refine pr_callV (As := []) (S := []) (t := 0) dX12_when_64 mk_X12_202 lm_0 (ci := 12) (q := (RX12, TX12, 36)) rfl rfl rfl rfl (Nat.le_of_ble_eq_true rfl) (by decide) (by decide) (Or.inl rfl) (tmX12_dried e16) ?_
  refine pr_iload_n dX12_when_67 rfl ?_
  refine pr_icmp_lt (tgt := 82) dX12_when_68 rfl rfl (by decide) (fun c_17 => ?_) (fun c_17 => ?_)
  · have h := pm_pos c_17 h
    refine pr_bipush dX12_when_82 (by decide) ?_
    refine pr_istore_n dX12_when_84 (by decide) rfl ?_
    refine pr_aload_n dX12_when_85 rfl ?_
    obtain ⟨q18, e19, h⟩ := pm_bs h
    refine pr_callV (As := []) (S := []) (t := 0) dX12_when_86 mk_X12_205 lm_0 (ci := 12) (q := (RX12, TX12, 36)) rfl rfl rfl rfl (Nat.le_of_ble_eq_true rfl) (by decide) (by decide) (Or.inl rfl) (tmX12_ends e19) ?_
    refine pr_iload_n dX12_when_89 rfl ?_
    have h := Option.some.inj h
    subst h
    exact pr_iret dX12_when_90 rfl
  · have h := pm_ng c_17 h
    refine pr_aload_n dX12_when_71 rfl ?_
    refine pr_getR dX12_when_72 lk_X12_86 lm_0 rfl ?_
    refine pr_sipush dX12_when_75 (by decide) ?_
    refine pr_iald dX12_when_78 lm_25 (wr_eq (by decide) (by decide)) ⟨by decide, by decide⟩ ?_
    refine pr_goto (tgt := 84) dX12_when_79 (by decide) ?_
    refine pr_istore_n dX12_when_84 (by decide) rfl ?_
    refine pr_aload_n dX12_when_85 rfl ?_
    obtain ⟨q20, e21, h⟩ := pm_bs h
    refine pr_callV (As := []) (S := []) (t := 0) dX12_when_86 mk_X12_205 lm_0 (ci := 12) (q := (RX12, TX12, 36)) rfl rfl rfl rfl (Nat.le_of_ble_eq_true rfl) (by decide) (by decide) (Or.inl rfl) (tmX12_ends e21) ?_
    refine pr_iload_n dX12_when_89 rfl ?_
    have h := Option.some.inj h
    subst h
    exact pr_iret dX12_when_90 rfl
def fX12_when (x1 : Int) (σ : pm_M) : Option (Int × pm_M) :=
  (fX12_wrong x1 0 80).bind fun q1 => if (wr q1) = 0 then ((fX12_begins σ).bind fun q4 => (pm_it (fun a => bdX12_when_24 x1 a.1 a.2) pm_fuel (0, q4)).bind fun v13 => jnX12_when_63 x1 v13.2) else ((fX12_refuse q1 σ).bind fun q22 => some (q22.1, q22.2))
set_option maxHeartbeats 4000000 in
set_option maxRecDepth 100000 in
theorem tmX12_when {x1 : Int} {σ : pm_M} {ρ : Int × pm_M} (h : fX12_when x1 σ = some ρ) : pm_C mX12_when 5 119 [pv_r 0, pv_i x1] LAYM σ (some (pv_i ρ.1)) LAYM ρ.2 := by
  refine pm_C.of (by decide) rfl (Nat.le_of_ble_eq_true rfl) ?_
  show pm_J mX12_when 5 119 LAYM (some (pv_i ρ.1)) LAYM ρ.2 0 [some (pv_r 0), some (pv_i x1), none, none] [] LAYM σ
  unfold fX12_when at h
  refine pr_iload_n dX12_when_0 rfl ?_
  refine pr_iconst dX12_when_1 ?_
  refine pr_bipush dX12_when_2 (by decide) ?_
  obtain ⟨q1, e2, h⟩ := pm_bs h
  refine pr_callS (av := [pv_i x1, pv_i 0, pv_i 80]) (S := []) dX12_when_4 mk_X12_99 rfl rfl (Nat.le_of_ble_eq_true rfl) (by decide) (by decide) (Or.inl rfl) (tmX12_wrong e2) ?_
  refine pr_istore_n dX12_when_7 (by decide) rfl ?_
  refine pr_iload_n dX12_when_8 rfl ?_
  refine pr_if_eq (tgt := 18) dX12_when_9 rfl (by decide) (fun c_3 => ?_) (fun c_3 => ?_)
  · have h := pm_pos c_3 h
    refine pr_aload_n dX12_when_18 rfl ?_
    obtain ⟨q4, e5, h⟩ := pm_bs h
    refine pr_callV (As := []) (S := []) (t := 0) dX12_when_19 mk_X12_199 lm_0 (ci := 12) (q := (RX12, TX12, 36)) rfl rfl rfl rfl (Nat.le_of_ble_eq_true rfl) (by decide) (by decide) (Or.inl rfl) (tmX12_begins e5) ?_
    refine pr_iconst dX12_when_22 ?_
    refine pr_istore_n dX12_when_23 (by decide) rfl ?_
    obtain ⟨v13, e14, h⟩ := pm_bs h
    refine pr_weak (L2 := [some (pv_r 0), some (pv_i x1), none, some (pv_i 0)]) ⟨Or.inr rfl, Or.inr rfl, Or.inl rfl, Or.inr rfl, trivial⟩ ?_
    refine pm_it_J (α := Int × pm_M) (β := Int × pm_M) (f := fun a => bdX12_when_24 x1 a.1 a.2) (P := fun a => pm_J mX12_when 5 119 LAYM (some (pv_i ρ.1)) LAYM ρ.2 24 [some (pv_r 0), some (pv_i x1), none, some (pv_i a.1)] [] LAYM a.2) (Rx := fun a => pm_J mX12_when 5 119 LAYM (some (pv_i ρ.1)) LAYM ρ.2 63 [some (pv_r 0), some (pv_i x1), none, none] [] LAYM a.2) (tbX12_when_24 x1) pm_fuel (0, q4) v13 e14 ?_
    show pm_J mX12_when 5 119 LAYM (some (pv_i ρ.1)) LAYM ρ.2 63 [some (pv_r 0), some (pv_i x1), none, none] [] LAYM v13.2
    refine pr_weak (L2 := [some (pv_r 0), some (pv_i x1), none, none]) ⟨Or.inr rfl, Or.inr rfl, Or.inl rfl, Or.inl rfl, trivial⟩ ?_
    exact tjX12_when_63 h
  · have h := pm_ng c_3 h
    refine pr_aload_n dX12_when_12 rfl ?_
    refine pr_iload_n dX12_when_13 rfl ?_
    obtain ⟨q22, e23, h⟩ := pm_bs h
    refine pr_callV (As := [pv_i q1]) (S := []) (t := 0) dX12_when_14 mk_X12_103 lm_0 (ci := 12) (q := (RX12, TX12, 36)) rfl rfl rfl rfl (Nat.le_of_ble_eq_true rfl) (by decide) (by decide) (Or.inl rfl) (tmX12_refuse e23) ?_
    have h := Option.some.inj h
    subst h
    exact pr_iret dX12_when_17 rfl
def fX12_mark (x1 : Int) (x2 : Int) (x3 : Int) (σ : pm_M) : Option (Int × pm_M) :=
  (fX12_isIn x1 (σ 25 (Int.toNat 752))).bind fun q1 => if (wr q1) = 0 then ((fX12_refuse (-1) σ).bind fun q4 => some (q4.1, q4.2)) else ((fX12_isIn x2 60).bind fun q6 => if (wr q6) = 0 then ((fX12_refuse (-1) σ).bind fun q9 => some (q9.1, q9.2)) else ((fX12_isIn x3 6).bind fun q11 => if (wr q11) = 0 then ((fX12_refuse (-1) σ).bind fun q14 => some (q14.1, q14.2)) else (pm_g (0 ≤ (wr ((6 * ((60 * x1) + x2)) + x3)) ∧ (wr ((6 * ((60 * x1) + x2)) + x3)) < 28800) (some ((σ 22 (Int.toNat (wr ((6 * ((60 * x1) + x2)) + x3)))), σ)))))
set_option maxHeartbeats 4000000 in
set_option maxRecDepth 100000 in
theorem tmX12_mark {x1 : Int} {x2 : Int} {x3 : Int} {σ : pm_M} {ρ : Int × pm_M} (h : fX12_mark x1 x2 x3 σ = some ρ) : pm_C mX12_mark 1 21 [pv_r 0, pv_i x1, pv_i x2, pv_i x3] LAYM σ (some (pv_i ρ.1)) LAYM ρ.2 := by
  refine pm_C.of (by decide) rfl (Nat.le_of_ble_eq_true rfl) ?_
  show pm_J mX12_mark 1 21 LAYM (some (pv_i ρ.1)) LAYM ρ.2 0 [some (pv_r 0), some (pv_i x1), some (pv_i x2), some (pv_i x3)] [] LAYM σ
  unfold fX12_mark at h
  refine pr_iload_n dX12_mark_0 rfl ?_
  refine pr_aload_n dX12_mark_1 rfl ?_
  refine pr_getR dX12_mark_2 lk_X12_86 lm_0 rfl ?_
  refine pr_sipush dX12_mark_5 (by decide) ?_
  refine pr_iald dX12_mark_8 lm_25 (wr_eq (by decide) (by decide)) ⟨by decide, by decide⟩ ?_
  obtain ⟨q1, e2, h⟩ := pm_bs h
  refine pr_callS (av := [pv_i x1, pv_i (σ 25 (Int.toNat 752))]) (S := []) dX12_mark_9 mk_X12_95 rfl rfl (Nat.le_of_ble_eq_true rfl) (by decide) (by decide) (Or.inl rfl) (tmX12_isIn e2) ?_
  refine pr_if_eq (tgt := 52) dX12_mark_12 rfl (by decide) (fun c_3 => ?_) (fun c_3 => ?_)
  · have h := pm_pos c_3 h
    refine pr_aload_n dX12_mark_52 rfl ?_
    refine pr_iconst dX12_mark_53 ?_
    obtain ⟨q4, e5, h⟩ := pm_bs h
    refine pr_callV (As := [pv_i (-1)]) (S := []) (t := 0) dX12_mark_54 mk_X12_103 lm_0 (ci := 12) (q := (RX12, TX12, 36)) rfl rfl rfl rfl (Nat.le_of_ble_eq_true rfl) (by decide) (by decide) (Or.inl rfl) (tmX12_refuse e5) ?_
    have h := Option.some.inj h
    subst h
    exact pr_iret dX12_mark_57 rfl
  · have h := pm_ng c_3 h
    refine pr_iload_n dX12_mark_15 rfl ?_
    refine pr_bipush dX12_mark_16 (by decide) ?_
    obtain ⟨q6, e7, h⟩ := pm_bs h
    refine pr_callS (av := [pv_i x2, pv_i 60]) (S := []) dX12_mark_18 mk_X12_95 rfl rfl (Nat.le_of_ble_eq_true rfl) (by decide) (by decide) (Or.inl rfl) (tmX12_isIn e7) ?_
    refine pr_if_eq (tgt := 52) dX12_mark_21 rfl (by decide) (fun c_8 => ?_) (fun c_8 => ?_)
    · have h := pm_pos c_8 h
      refine pr_aload_n dX12_mark_52 rfl ?_
      refine pr_iconst dX12_mark_53 ?_
      obtain ⟨q9, e10, h⟩ := pm_bs h
      refine pr_callV (As := [pv_i (-1)]) (S := []) (t := 0) dX12_mark_54 mk_X12_103 lm_0 (ci := 12) (q := (RX12, TX12, 36)) rfl rfl rfl rfl (Nat.le_of_ble_eq_true rfl) (by decide) (by decide) (Or.inl rfl) (tmX12_refuse e10) ?_
      have h := Option.some.inj h
      subst h
      exact pr_iret dX12_mark_57 rfl
    · have h := pm_ng c_8 h
      refine pr_iload_n dX12_mark_24 rfl ?_
      refine pr_bipush dX12_mark_25 (by decide) ?_
      obtain ⟨q11, e12, h⟩ := pm_bs h
      refine pr_callS (av := [pv_i x3, pv_i 6]) (S := []) dX12_mark_27 mk_X12_95 rfl rfl (Nat.le_of_ble_eq_true rfl) (by decide) (by decide) (Or.inl rfl) (tmX12_isIn e12) ?_
      refine pr_if_eq (tgt := 52) dX12_mark_30 rfl (by decide) (fun c_13 => ?_) (fun c_13 => ?_)
      · have h := pm_pos c_13 h
        refine pr_aload_n dX12_mark_52 rfl ?_
        refine pr_iconst dX12_mark_53 ?_
        obtain ⟨q14, e15, h⟩ := pm_bs h
        refine pr_callV (As := [pv_i (-1)]) (S := []) (t := 0) dX12_mark_54 mk_X12_103 lm_0 (ci := 12) (q := (RX12, TX12, 36)) rfl rfl rfl rfl (Nat.le_of_ble_eq_true rfl) (by decide) (by decide) (Or.inl rfl) (tmX12_refuse e15) ?_
        have h := Option.some.inj h
        subst h
        exact pr_iret dX12_mark_57 rfl
      · have h := pm_ng c_13 h
        refine pr_aload_n dX12_mark_33 rfl ?_
        refine pr_getR dX12_mark_34 lk_X12_77 lm_0 rfl ?_
        refine pr_bipush dX12_mark_37 (by decide) ?_
        refine pr_bipush dX12_mark_39 (by decide) ?_
        refine pr_iload_n dX12_mark_41 rfl ?_
        refine pr_imul dX12_mark_42 ?_
        refine pr_iload_n dX12_mark_43 rfl ?_
        refine pr_iadd dX12_mark_44 ?_
        refine pr_imul dX12_mark_45 ?_
        refine pr_iload_n dX12_mark_46 rfl ?_
        refine pr_iadd dX12_mark_47 ?_
        obtain ⟨g_16, h⟩ := pm_gs h
        refine pr_iald dX12_mark_48 lm_22 rfl g_16 ?_
        refine pr_goto (tgt := 57) dX12_mark_49 (by decide) ?_
        have h := Option.some.inj h
        subst h
        exact pr_iret dX12_mark_57 rfl
def fX12_olds (x1 : Int) (x2 : Int) (x3 : Int) (x4 : Int) (σ : pm_M) : Option (Int × pm_M) :=
  if (wr x2) < (-1) then ((fX12_refuse (-4) σ).bind fun q2 => some (q2.1, q2.2)) else (if (wr x3) < (-1) then ((fX12_refuse (-4) σ).bind fun q5 => some (q5.1, q5.2)) else (if (-1) ≤ (wr x4) then (if 99 < (wr x2) then ((fX12_refuse (-6) σ).bind fun q9 => some (q9.1, q9.2)) else (if 99 < (wr x3) then ((fX12_refuse (-6) σ).bind fun q12 => some (q12.1, q12.2)) else (if (wr x4) ≤ 99 then (pm_g (0 ≤ (wr x1) ∧ (wr x1) < 6) (pm_g (0 ≤ (wr (x1 + 1)) ∧ (wr (x1 + 1)) < 6) (pm_g (0 ≤ (wr (x1 + 2)) ∧ (wr (x1 + 2)) < 6) (some (1, (pm_up (pm_up (pm_up σ 24 (Int.toNat (wr x1)) x2) 24 (Int.toNat (wr (x1 + 1))) x3) 24 (Int.toNat (wr (x1 + 2))) x4)))))) else ((fX12_refuse (-6) σ).bind fun q18 => some (q18.1, q18.2))))) else ((fX12_refuse (-4) σ).bind fun q20 => some (q20.1, q20.2))))
set_option maxHeartbeats 4000000 in
set_option maxRecDepth 100000 in
theorem tmX12_olds {x1 : Int} {x2 : Int} {x3 : Int} {x4 : Int} {σ : pm_M} {ρ : Int × pm_M} (h : fX12_olds x1 x2 x3 x4 σ = some ρ) : pm_C mX12_olds 1 21 [pv_r 0, pv_i x1, pv_i x2, pv_i x3, pv_i x4] LAYM σ (some (pv_i ρ.1)) LAYM ρ.2 := by
  refine pm_C.of (by decide) rfl (Nat.le_of_ble_eq_true rfl) ?_
  show pm_J mX12_olds 1 21 LAYM (some (pv_i ρ.1)) LAYM ρ.2 0 [some (pv_r 0), some (pv_i x1), some (pv_i x2), some (pv_i x3), some (pv_i x4)] [] LAYM σ
  unfold fX12_olds at h
  refine pr_iload_n dX12_olds_0 rfl ?_
  refine pr_iconst dX12_olds_1 ?_
  refine pr_icmp_lt (tgt := 16) dX12_olds_2 rfl (wr_eq (by decide) (by decide)) (by decide) (fun c_1 => ?_) (fun c_1 => ?_)
  · have h := pm_pos c_1 h
    refine pr_aload_n dX12_olds_16 rfl ?_
    refine pr_bipush dX12_olds_17 (by decide) ?_
    obtain ⟨q2, e3, h⟩ := pm_bs h
    refine pr_callV (As := [pv_i (-4)]) (S := []) (t := 0) dX12_olds_19 mk_X12_103 lm_0 (ci := 12) (q := (RX12, TX12, 36)) rfl rfl rfl rfl (Nat.le_of_ble_eq_true rfl) (by decide) (by decide) (Or.inl rfl) (tmX12_refuse e3) ?_
    have h := Option.some.inj h
    subst h
    exact pr_iret dX12_olds_22 rfl
  · have h := pm_ng c_1 h
    refine pr_iload_n dX12_olds_5 rfl ?_
    refine pr_iconst dX12_olds_6 ?_
    refine pr_icmp_lt (tgt := 16) dX12_olds_7 rfl (wr_eq (by decide) (by decide)) (by decide) (fun c_4 => ?_) (fun c_4 => ?_)
    · have h := pm_pos c_4 h
      refine pr_aload_n dX12_olds_16 rfl ?_
      refine pr_bipush dX12_olds_17 (by decide) ?_
      obtain ⟨q5, e6, h⟩ := pm_bs h
      refine pr_callV (As := [pv_i (-4)]) (S := []) (t := 0) dX12_olds_19 mk_X12_103 lm_0 (ci := 12) (q := (RX12, TX12, 36)) rfl rfl rfl rfl (Nat.le_of_ble_eq_true rfl) (by decide) (by decide) (Or.inl rfl) (tmX12_refuse e6) ?_
      have h := Option.some.inj h
      subst h
      exact pr_iret dX12_olds_22 rfl
    · have h := pm_ng c_4 h
      refine pr_iload dX12_olds_10 rfl ?_
      refine pr_iconst dX12_olds_12 ?_
      refine pr_icmp_ge (tgt := 23) dX12_olds_13 rfl (wr_eq (by decide) (by decide)) (by decide) (fun c_7 => ?_) (fun c_7 => ?_)
      · have h := pm_pos c_7 h
        refine pr_iload_n dX12_olds_23 rfl ?_
        refine pr_bipush dX12_olds_24 (by decide) ?_
        refine pr_icmp_gt (tgt := 42) dX12_olds_26 rfl (wr_eq (by decide) (by decide)) (by decide) (fun c_8 => ?_) (fun c_8 => ?_)
        · have h := pm_pos c_8 h
          refine pr_aload_n dX12_olds_42 rfl ?_
          refine pr_bipush dX12_olds_43 (by decide) ?_
          obtain ⟨q9, e10, h⟩ := pm_bs h
          refine pr_callV (As := [pv_i (-6)]) (S := []) (t := 0) dX12_olds_45 mk_X12_103 lm_0 (ci := 12) (q := (RX12, TX12, 36)) rfl rfl rfl rfl (Nat.le_of_ble_eq_true rfl) (by decide) (by decide) (Or.inl rfl) (tmX12_refuse e10) ?_
          have h := Option.some.inj h
          subst h
          exact pr_iret dX12_olds_48 rfl
        · have h := pm_ng c_8 h
          refine pr_iload_n dX12_olds_29 rfl ?_
          refine pr_bipush dX12_olds_30 (by decide) ?_
          refine pr_icmp_gt (tgt := 42) dX12_olds_32 rfl (wr_eq (by decide) (by decide)) (by decide) (fun c_11 => ?_) (fun c_11 => ?_)
          · have h := pm_pos c_11 h
            refine pr_aload_n dX12_olds_42 rfl ?_
            refine pr_bipush dX12_olds_43 (by decide) ?_
            obtain ⟨q12, e13, h⟩ := pm_bs h
            refine pr_callV (As := [pv_i (-6)]) (S := []) (t := 0) dX12_olds_45 mk_X12_103 lm_0 (ci := 12) (q := (RX12, TX12, 36)) rfl rfl rfl rfl (Nat.le_of_ble_eq_true rfl) (by decide) (by decide) (Or.inl rfl) (tmX12_refuse e13) ?_
            have h := Option.some.inj h
            subst h
            exact pr_iret dX12_olds_48 rfl
          · have h := pm_ng c_11 h
            refine pr_iload dX12_olds_35 rfl ?_
            refine pr_bipush dX12_olds_37 (by decide) ?_
            refine pr_icmp_le (tgt := 49) dX12_olds_39 rfl (wr_eq (by decide) (by decide)) (by decide) (fun c_14 => ?_) (fun c_14 => ?_)
            · have h := pm_pos c_14 h
              refine pr_aload_n dX12_olds_49 rfl ?_
              refine pr_getR dX12_olds_50 lk_X12_83 lm_0 rfl ?_
              refine pr_iload_n dX12_olds_53 rfl ?_
              refine pr_iload_n dX12_olds_54 rfl ?_
              obtain ⟨g_15, h⟩ := pm_gs h
              refine pr_iast dX12_olds_55 lm_24 rfl g_15 ?_
              refine pr_aload_n dX12_olds_56 rfl ?_
              refine pr_getR dX12_olds_57 lk_X12_83 lm_0 rfl ?_
              refine pr_iload_n dX12_olds_60 rfl ?_
              refine pr_iconst dX12_olds_61 ?_
              refine pr_iadd dX12_olds_62 ?_
              refine pr_iload_n dX12_olds_63 rfl ?_
              obtain ⟨g_16, h⟩ := pm_gs h
              refine pr_iast dX12_olds_64 lm_24 rfl g_16 ?_
              refine pr_aload_n dX12_olds_65 rfl ?_
              refine pr_getR dX12_olds_66 lk_X12_83 lm_0 rfl ?_
              refine pr_iload_n dX12_olds_69 rfl ?_
              refine pr_iconst dX12_olds_70 ?_
              refine pr_iadd dX12_olds_71 ?_
              refine pr_iload dX12_olds_72 rfl ?_
              obtain ⟨g_17, h⟩ := pm_gs h
              refine pr_iast dX12_olds_74 lm_24 rfl g_17 ?_
              refine pr_iconst dX12_olds_75 ?_
              have h := Option.some.inj h
              subst h
              exact pr_iret dX12_olds_76 rfl
            · have h := pm_ng c_14 h
              refine pr_aload_n dX12_olds_42 rfl ?_
              refine pr_bipush dX12_olds_43 (by decide) ?_
              obtain ⟨q18, e19, h⟩ := pm_bs h
              refine pr_callV (As := [pv_i (-6)]) (S := []) (t := 0) dX12_olds_45 mk_X12_103 lm_0 (ci := 12) (q := (RX12, TX12, 36)) rfl rfl rfl rfl (Nat.le_of_ble_eq_true rfl) (by decide) (by decide) (Or.inl rfl) (tmX12_refuse e19) ?_
              have h := Option.some.inj h
              subst h
              exact pr_iret dX12_olds_48 rfl
      · have h := pm_ng c_7 h
        refine pr_aload_n dX12_olds_16 rfl ?_
        refine pr_bipush dX12_olds_17 (by decide) ?_
        obtain ⟨q20, e21, h⟩ := pm_bs h
        refine pr_callV (As := [pv_i (-4)]) (S := []) (t := 0) dX12_olds_19 mk_X12_103 lm_0 (ci := 12) (q := (RX12, TX12, 36)) rfl rfl rfl rfl (Nat.le_of_ble_eq_true rfl) (by decide) (by decide) (Or.inl rfl) (tmX12_refuse e21) ?_
        have h := Option.some.inj h
        subst h
        exact pr_iret dX12_olds_22 rfl
def fX12_oldA (x1 : Int) (x2 : Int) (x3 : Int) (σ : pm_M) : Option (Int × pm_M) :=
  (fX12_olds 0 x1 x2 x3 σ).bind fun q1 => some (q1.1, q1.2)
set_option maxHeartbeats 4000000 in
set_option maxRecDepth 100000 in
theorem tmX12_oldA {x1 : Int} {x2 : Int} {x3 : Int} {σ : pm_M} {ρ : Int × pm_M} (h : fX12_oldA x1 x2 x3 σ = some ρ) : pm_C mX12_oldA 2 45 [pv_r 0, pv_i x1, pv_i x2, pv_i x3] LAYM σ (some (pv_i ρ.1)) LAYM ρ.2 := by
  refine pm_C.of (by decide) rfl (Nat.le_of_ble_eq_true rfl) ?_
  show pm_J mX12_oldA 2 45 LAYM (some (pv_i ρ.1)) LAYM ρ.2 0 [some (pv_r 0), some (pv_i x1), some (pv_i x2), some (pv_i x3)] [] LAYM σ
  unfold fX12_oldA at h
  refine pr_aload_n dX12_oldA_0 rfl ?_
  refine pr_iconst dX12_oldA_1 ?_
  refine pr_iload_n dX12_oldA_2 rfl ?_
  refine pr_iload_n dX12_oldA_3 rfl ?_
  refine pr_iload_n dX12_oldA_4 rfl ?_
  obtain ⟨q1, e2, h⟩ := pm_bs h
  refine pr_callV (As := [pv_i 0, pv_i x1, pv_i x2, pv_i x3]) (S := []) (t := 0) dX12_oldA_5 mk_X12_208 lm_0 (ci := 12) (q := (RX12, TX12, 36)) rfl rfl rfl rfl (Nat.le_of_ble_eq_true rfl) (by decide) (by decide) (Or.inl rfl) (tmX12_olds e2) ?_
  have h := Option.some.inj h
  subst h
  exact pr_iret dX12_oldA_8 rfl
