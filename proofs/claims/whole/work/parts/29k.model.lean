def bdX12_hours_40 (y1 : Int) (y3 : Int) (z4 : Int) (σ : pm_M) : Option ((Int × pm_M) ⊕ (Int × pm_M)) :=
  if (wr y1) ≤ (wr z4) then (some (.inl (z4, σ))) else ((fX12_hour σ).bind fun q5 => some (.inr ((z4 + 1), q5)))
set_option maxHeartbeats 4000000 in
set_option maxRecDepth 100000 in
theorem tbX12_hours_40 {lay0 lay' : List pm_S} {r : Option pm_V} {σ' : pm_M} (y1 : Int) (y3 : Int) : ∀ (a : Int × pm_M) (e : (Int × pm_M) ⊕ (Int × pm_M)), (fun a => bdX12_hours_40 y1 y3 a.1 a.2) a = some e → (∀ a, e = .inr a → (fun a => pm_J mX12_hours 5 119 lay0 r lay' σ' 40 [some (pv_r 0), some (pv_i y1), none, some (pv_i y3), some (pv_i a.1)] [] LAYM a.2) a) → (∀ a, e = .inl a → (fun a => pm_J mX12_hours 5 119 lay0 r lay' σ' 56 [some (pv_r 0), none, none, some (pv_i y3), none] [] LAYM a.2) a) → (fun a => pm_J mX12_hours 5 119 lay0 r lay' σ' 40 [some (pv_r 0), some (pv_i y1), none, some (pv_i y3), some (pv_i a.1)] [] LAYM a.2) a := by
  intro a e h hc hx
  obtain ⟨z4, σ⟩ := a
  have h : bdX12_hours_40 y1 y3 z4 σ = some e := h
  unfold bdX12_hours_40 at h
  show pm_J mX12_hours 5 119 lay0 r lay' σ' 40 [some (pv_r 0), some (pv_i y1), none, some (pv_i y3), some (pv_i z4)] [] LAYM σ
  refine pr_iload dX12_hours_40 rfl ?_
  refine pr_iload_n dX12_hours_42 rfl ?_
  refine pr_icmp_ge (tgt := 56) dX12_hours_43 rfl rfl (by decide) (fun c_4 => ?_) (fun c_4 => ?_)
  · have h := pm_pos c_4 h
    refine pr_weak (L2 := [some (pv_r 0), none, none, some (pv_i y3), none]) ⟨Or.inr rfl, Or.inl rfl, Or.inl rfl, Or.inr rfl, Or.inl rfl, trivial⟩ ?_
    exact hx (z4, σ) (Option.some.inj h).symm
  · have h := pm_ng c_4 h
    refine pr_aload_n dX12_hours_46 rfl ?_
    obtain ⟨q5, e6, h⟩ := pm_bs h
    refine pr_callV (As := []) (S := []) (t := 0) dX12_hours_47 mk_X12_196 lm_0 (ci := 12) (q := (RX12, TX12, 36)) rfl rfl rfl rfl (Nat.le_of_ble_eq_true rfl) (by decide) (by decide) (Or.inl rfl) (tmX12_hour e6) ?_
    refine pr_iinc dX12_hours_50 rfl (by decide) rfl ?_
    refine pr_goto (tgt := 40) dX12_hours_53 (by decide) ?_
    refine pr_weak (L2 := [some (pv_r 0), some (pv_i y1), none, some (pv_i y3), some (pv_i (z4 + 1))]) ⟨Or.inr rfl, Or.inr rfl, Or.inl rfl, Or.inr rfl, Or.inr rfl, trivial⟩ ?_
    exact hc ((z4 + 1), q5) (Option.some.inj h).symm
def fX12_hours (x1 : Int) (σ : pm_M) : Option (Int × pm_M) :=
  (fX12_wrong x1 1 (2400 - (σ 25 (Int.toNat 751)))).bind fun q1 => if (wr q1) = 0 then ((pm_it (fun a => bdX12_hours_40 x1 (σ 25 (Int.toNat 752)) a.1 a.2) pm_fuel (0, σ)).bind fun v7 => some (((v7.2 25 (Int.toNat 752)) - (σ 25 (Int.toNat 752))), v7.2)) else ((fX12_refuse q1 σ).bind fun q9 => some (q9.1, q9.2))
set_option maxHeartbeats 4000000 in
set_option maxRecDepth 100000 in
theorem tmX12_hours {x1 : Int} {σ : pm_M} {ρ : Int × pm_M} (h : fX12_hours x1 σ = some ρ) : pm_C mX12_hours 5 119 [pv_r 0, pv_i x1] LAYM σ (some (pv_i ρ.1)) LAYM ρ.2 := by
  refine pm_C.of (by decide) rfl (Nat.le_of_ble_eq_true rfl) ?_
  show pm_J mX12_hours 5 119 LAYM (some (pv_i ρ.1)) LAYM ρ.2 0 [some (pv_r 0), some (pv_i x1), none, none, none] [] LAYM σ
  unfold fX12_hours at h
  refine pr_iload_n dX12_hours_0 rfl ?_
  refine pr_iconst dX12_hours_1 ?_
  refine pr_sipush dX12_hours_2 (by decide) ?_
  refine pr_aload_n dX12_hours_5 rfl ?_
  refine pr_getR dX12_hours_6 lk_X12_86 lm_0 rfl ?_
  refine pr_sipush dX12_hours_9 (by decide) ?_
  refine pr_iald dX12_hours_12 lm_25 (wr_eq (by decide) (by decide)) ⟨by decide, by decide⟩ ?_
  refine pr_isub dX12_hours_13 ?_
  obtain ⟨q1, e2, h⟩ := pm_bs h
  refine pr_callS (av := [pv_i x1, pv_i 1, pv_i (2400 - (σ 25 (Int.toNat 751)))]) (S := []) dX12_hours_14 mk_X12_99 rfl rfl (Nat.le_of_ble_eq_true rfl) (by decide) (by decide) (Or.inl rfl) (tmX12_wrong e2) ?_
  refine pr_istore_n dX12_hours_17 (by decide) rfl ?_
  refine pr_iload_n dX12_hours_18 rfl ?_
  refine pr_if_eq (tgt := 28) dX12_hours_19 rfl (by decide) (fun c_3 => ?_) (fun c_3 => ?_)
  · have h := pm_pos c_3 h
    refine pr_aload_n dX12_hours_28 rfl ?_
    refine pr_getR dX12_hours_29 lk_X12_86 lm_0 rfl ?_
    refine pr_sipush dX12_hours_32 (by decide) ?_
    refine pr_iald dX12_hours_35 lm_25 (wr_eq (by decide) (by decide)) ⟨by decide, by decide⟩ ?_
    refine pr_istore_n dX12_hours_36 (by decide) rfl ?_
    refine pr_iconst dX12_hours_37 ?_
    refine pr_istore dX12_hours_38 (by decide) rfl ?_
    obtain ⟨v7, e8, h⟩ := pm_bs h
    refine pr_weak (L2 := [some (pv_r 0), some (pv_i x1), none, some (pv_i (σ 25 (Int.toNat 752))), some (pv_i 0)]) ⟨Or.inr rfl, Or.inr rfl, Or.inl rfl, Or.inr rfl, Or.inr rfl, trivial⟩ ?_
    refine pm_it_J (α := Int × pm_M) (β := Int × pm_M) (f := fun a => bdX12_hours_40 x1 (σ 25 (Int.toNat 752)) a.1 a.2) (P := fun a => pm_J mX12_hours 5 119 LAYM (some (pv_i ρ.1)) LAYM ρ.2 40 [some (pv_r 0), some (pv_i x1), none, some (pv_i (σ 25 (Int.toNat 752))), some (pv_i a.1)] [] LAYM a.2) (Rx := fun a => pm_J mX12_hours 5 119 LAYM (some (pv_i ρ.1)) LAYM ρ.2 56 [some (pv_r 0), none, none, some (pv_i (σ 25 (Int.toNat 752))), none] [] LAYM a.2) (tbX12_hours_40 x1 (σ 25 (Int.toNat 752))) pm_fuel (0, σ) v7 e8 ?_
    show pm_J mX12_hours 5 119 LAYM (some (pv_i ρ.1)) LAYM ρ.2 56 [some (pv_r 0), none, none, some (pv_i (σ 25 (Int.toNat 752))), none] [] LAYM v7.2
    refine pr_aload_n dX12_hours_56 rfl ?_
    refine pr_getR dX12_hours_57 lk_X12_86 lm_0 rfl ?_
    refine pr_sipush dX12_hours_60 (by decide) ?_
    refine pr_iald dX12_hours_63 lm_25 (wr_eq (by decide) (by decide)) ⟨by decide, by decide⟩ ?_
    refine pr_iload_n dX12_hours_64 rfl ?_
    refine pr_isub dX12_hours_65 ?_
    have h := Option.some.inj h
    subst h
    exact pr_iret dX12_hours_66 rfl
  · have h := pm_ng c_3 h
    refine pr_aload_n dX12_hours_22 rfl ?_
    refine pr_iload_n dX12_hours_23 rfl ?_
    obtain ⟨q9, e10, h⟩ := pm_bs h
    refine pr_callV (As := [pv_i q1]) (S := []) (t := 0) dX12_hours_24 mk_X12_103 lm_0 (ci := 12) (q := (RX12, TX12, 36)) rfl rfl rfl rfl (Nat.le_of_ble_eq_true rfl) (by decide) (by decide) (Or.inl rfl) (tmX12_refuse e10) ?_
    have h := Option.some.inj h
    subst h
    exact pr_iret dX12_hours_27 rfl
def bdX12_begins_2 (z1 : Int) (σ : pm_M) : Option ((Int × pm_M) ⊕ (Int × pm_M)) :=
  if 755 ≤ (wr z1) then (some (.inl (z1, σ))) else (pm_g (0 ≤ (wr z1) ∧ (wr z1) < 755) (pm_g (0 ≤ (wr z1) ∧ (wr z1) < 755) (some (.inr ((z1 + 1), (pm_up σ 26 (Int.toNat (wr z1)) (σ 25 (Int.toNat (wr z1)))))))))
set_option maxHeartbeats 4000000 in
set_option maxRecDepth 100000 in
theorem tbX12_begins_2 {lay0 lay' : List pm_S} {r : Option pm_V} {σ' : pm_M} : ∀ (a : Int × pm_M) (e : (Int × pm_M) ⊕ (Int × pm_M)), (fun a => bdX12_begins_2 a.1 a.2) a = some e → (∀ a, e = .inr a → (fun a => pm_J mX12_begins 0 0 lay0 r lay' σ' 2 [some (pv_r 0), some (pv_i a.1)] [] LAYM a.2) a) → (∀ a, e = .inl a → (fun a => pm_J mX12_begins 0 0 lay0 r lay' σ' 27 [some (pv_r 0), none] [] LAYM a.2) a) → (fun a => pm_J mX12_begins 0 0 lay0 r lay' σ' 2 [some (pv_r 0), some (pv_i a.1)] [] LAYM a.2) a := by
  intro a e h hc hx
  obtain ⟨z1, σ⟩ := a
  have h : bdX12_begins_2 z1 σ = some e := h
  unfold bdX12_begins_2 at h
  show pm_J mX12_begins 0 0 lay0 r lay' σ' 2 [some (pv_r 0), some (pv_i z1)] [] LAYM σ
  refine pr_iload_n dX12_begins_2 rfl ?_
  refine pr_sipush dX12_begins_3 (by decide) ?_
  refine pr_icmp_ge (tgt := 27) dX12_begins_6 rfl (wr_eq (by decide) (by decide)) (by decide) (fun c_1 => ?_) (fun c_1 => ?_)
  · have h := pm_pos c_1 h
    refine pr_weak (L2 := [some (pv_r 0), none]) ⟨Or.inr rfl, Or.inl rfl, trivial⟩ ?_
    exact hx (z1, σ) (Option.some.inj h).symm
  · have h := pm_ng c_1 h
    refine pr_aload_n dX12_begins_9 rfl ?_
    refine pr_getR dX12_begins_10 lk_X12_89 lm_0 rfl ?_
    refine pr_iload_n dX12_begins_13 rfl ?_
    refine pr_aload_n dX12_begins_14 rfl ?_
    refine pr_getR dX12_begins_15 lk_X12_86 lm_0 rfl ?_
    refine pr_iload_n dX12_begins_18 rfl ?_
    obtain ⟨g_2, h⟩ := pm_gs h
    refine pr_iald dX12_begins_19 lm_25 rfl g_2 ?_
    obtain ⟨g_3, h⟩ := pm_gs h
    refine pr_iast dX12_begins_20 lm_26 rfl g_3 ?_
    refine pr_iinc dX12_begins_21 rfl (by decide) rfl ?_
    refine pr_goto (tgt := 2) dX12_begins_24 (by decide) ?_
    refine pr_weak (L2 := [some (pv_r 0), some (pv_i (z1 + 1))]) ⟨Or.inr rfl, Or.inr rfl, trivial⟩ ?_
    exact hc ((z1 + 1), (pm_up σ 26 (Int.toNat (wr z1)) (σ 25 (Int.toNat (wr z1))))) (Option.some.inj h).symm
def fX12_begins (σ : pm_M) : Option (pm_M) :=
  (pm_it (fun a => bdX12_begins_2 a.1 a.2) pm_fuel (0, σ)).bind fun v4 => some (pm_up v4.2 0 32 1)
set_option maxHeartbeats 4000000 in
set_option maxRecDepth 100000 in
theorem tmX12_begins {σ : pm_M} {ρ : pm_M} (h : fX12_begins σ = some ρ) : pm_C mX12_begins 0 0 [pv_r 0] LAYM σ none LAYM ρ := by
  refine pm_C.of (by decide) rfl (Nat.le_of_ble_eq_true rfl) ?_
  show pm_J mX12_begins 0 0 LAYM none LAYM ρ 0 [some (pv_r 0), none] [] LAYM σ
  unfold fX12_begins at h
  refine pr_iconst dX12_begins_0 ?_
  refine pr_istore_n dX12_begins_1 (by decide) rfl ?_
  obtain ⟨v4, e5, h⟩ := pm_bs h
  refine pr_weak (L2 := [some (pv_r 0), some (pv_i 0)]) ⟨Or.inr rfl, Or.inr rfl, trivial⟩ ?_
  refine pm_it_J (α := Int × pm_M) (β := Int × pm_M) (f := fun a => bdX12_begins_2 a.1 a.2) (P := fun a => pm_J mX12_begins 0 0 LAYM none LAYM ρ 2 [some (pv_r 0), some (pv_i a.1)] [] LAYM a.2) (Rx := fun a => pm_J mX12_begins 0 0 LAYM none LAYM ρ 27 [some (pv_r 0), none] [] LAYM a.2) (tbX12_begins_2) pm_fuel (0, σ) v4 e5 ?_
  show pm_J mX12_begins 0 0 LAYM none LAYM ρ 27 [some (pv_r 0), none] [] LAYM v4.2
  refine pr_aload_n dX12_begins_27 rfl ?_
  refine pr_iconst dX12_begins_28 ?_
  refine pr_putZ dX12_begins_29 lp_X12_176 lm_0 rfl (Or.inr rfl) ?_
  have h := Option.some.inj h
  subst h
  exact pr_vret dX12_begins_32 rfl
def bdX12_ends_2 (z1 : Int) (σ : pm_M) : Option ((Int × pm_M) ⊕ (Int × pm_M)) :=
  if 755 ≤ (wr z1) then (some (.inl (z1, σ))) else (pm_g (0 ≤ (wr z1) ∧ (wr z1) < 755) (pm_g (0 ≤ (wr z1) ∧ (wr z1) < 755) (some (.inr ((z1 + 1), (pm_up σ 25 (Int.toNat (wr z1)) (σ 26 (Int.toNat (wr z1)))))))))
set_option maxHeartbeats 4000000 in
set_option maxRecDepth 100000 in
theorem tbX12_ends_2 {lay0 lay' : List pm_S} {r : Option pm_V} {σ' : pm_M} : ∀ (a : Int × pm_M) (e : (Int × pm_M) ⊕ (Int × pm_M)), (fun a => bdX12_ends_2 a.1 a.2) a = some e → (∀ a, e = .inr a → (fun a => pm_J mX12_ends 0 0 lay0 r lay' σ' 2 [some (pv_r 0), some (pv_i a.1)] [] LAYM a.2) a) → (∀ a, e = .inl a → (fun a => pm_J mX12_ends 0 0 lay0 r lay' σ' 27 [some (pv_r 0), none] [] LAYM a.2) a) → (fun a => pm_J mX12_ends 0 0 lay0 r lay' σ' 2 [some (pv_r 0), some (pv_i a.1)] [] LAYM a.2) a := by
  intro a e h hc hx
  obtain ⟨z1, σ⟩ := a
  have h : bdX12_ends_2 z1 σ = some e := h
  unfold bdX12_ends_2 at h
  show pm_J mX12_ends 0 0 lay0 r lay' σ' 2 [some (pv_r 0), some (pv_i z1)] [] LAYM σ
  refine pr_iload_n dX12_ends_2 rfl ?_
  refine pr_sipush dX12_ends_3 (by decide) ?_
  refine pr_icmp_ge (tgt := 27) dX12_ends_6 rfl (wr_eq (by decide) (by decide)) (by decide) (fun c_1 => ?_) (fun c_1 => ?_)
  · have h := pm_pos c_1 h
    refine pr_weak (L2 := [some (pv_r 0), none]) ⟨Or.inr rfl, Or.inl rfl, trivial⟩ ?_
    exact hx (z1, σ) (Option.some.inj h).symm
  · have h := pm_ng c_1 h
    refine pr_aload_n dX12_ends_9 rfl ?_
    refine pr_getR dX12_ends_10 lk_X12_86 lm_0 rfl ?_
    refine pr_iload_n dX12_ends_13 rfl ?_
    refine pr_aload_n dX12_ends_14 rfl ?_
    refine pr_getR dX12_ends_15 lk_X12_89 lm_0 rfl ?_
    refine pr_iload_n dX12_ends_18 rfl ?_
    obtain ⟨g_2, h⟩ := pm_gs h
    refine pr_iald dX12_ends_19 lm_26 rfl g_2 ?_
    obtain ⟨g_3, h⟩ := pm_gs h
    refine pr_iast dX12_ends_20 lm_25 rfl g_3 ?_
    refine pr_iinc dX12_ends_21 rfl (by decide) rfl ?_
    refine pr_goto (tgt := 2) dX12_ends_24 (by decide) ?_
    refine pr_weak (L2 := [some (pv_r 0), some (pv_i (z1 + 1))]) ⟨Or.inr rfl, Or.inr rfl, trivial⟩ ?_
    exact hc ((z1 + 1), (pm_up σ 25 (Int.toNat (wr z1)) (σ 26 (Int.toNat (wr z1))))) (Option.some.inj h).symm
def fX12_ends (σ : pm_M) : Option (pm_M) :=
  (pm_it (fun a => bdX12_ends_2 a.1 a.2) pm_fuel (0, σ)).bind fun v4 => some (pm_up v4.2 0 32 0)
set_option maxHeartbeats 4000000 in
set_option maxRecDepth 100000 in
theorem tmX12_ends {σ : pm_M} {ρ : pm_M} (h : fX12_ends σ = some ρ) : pm_C mX12_ends 0 0 [pv_r 0] LAYM σ none LAYM ρ := by
  refine pm_C.of (by decide) rfl (Nat.le_of_ble_eq_true rfl) ?_
  show pm_J mX12_ends 0 0 LAYM none LAYM ρ 0 [some (pv_r 0), none] [] LAYM σ
  unfold fX12_ends at h
  refine pr_iconst dX12_ends_0 ?_
  refine pr_istore_n dX12_ends_1 (by decide) rfl ?_
  obtain ⟨v4, e5, h⟩ := pm_bs h
  refine pr_weak (L2 := [some (pv_r 0), some (pv_i 0)]) ⟨Or.inr rfl, Or.inr rfl, trivial⟩ ?_
  refine pm_it_J (α := Int × pm_M) (β := Int × pm_M) (f := fun a => bdX12_ends_2 a.1 a.2) (P := fun a => pm_J mX12_ends 0 0 LAYM none LAYM ρ 2 [some (pv_r 0), some (pv_i a.1)] [] LAYM a.2) (Rx := fun a => pm_J mX12_ends 0 0 LAYM none LAYM ρ 27 [some (pv_r 0), none] [] LAYM a.2) (tbX12_ends_2) pm_fuel (0, σ) v4 e5 ?_
  show pm_J mX12_ends 0 0 LAYM none LAYM ρ 27 [some (pv_r 0), none] [] LAYM v4.2
  refine pr_aload_n dX12_ends_27 rfl ?_
  refine pr_iconst dX12_ends_28 ?_
  refine pr_putZ dX12_ends_29 lp_X12_176 lm_0 rfl (Or.inl rfl) ?_
  have h := Option.some.inj h
  subst h
  exact pr_vret dX12_ends_32 rfl
def fX12_dried (σ : pm_M) : Option (Int) :=
  (fX12_inState 2 σ).bind fun q1 => (fX12_inState 3 σ).bind fun q3 => some (q1 + q3)
set_option maxHeartbeats 4000000 in
set_option maxRecDepth 100000 in
theorem tmX12_dried {σ : pm_M} {ρ : Int} (h : fX12_dried σ = some ρ) : pm_C mX12_dried 2 45 [pv_r 0] LAYM σ (some (pv_i ρ)) LAYM σ := by
  refine pm_C.of (by decide) rfl (Nat.le_of_ble_eq_true rfl) ?_
  show pm_J mX12_dried 2 45 LAYM (some (pv_i ρ)) LAYM σ 0 [some (pv_r 0)] [] LAYM σ
  unfold fX12_dried at h
  refine pr_aload_n dX12_dried_0 rfl ?_
  refine pr_iconst dX12_dried_1 ?_
  obtain ⟨q1, e2, h⟩ := pm_bs h
  refine pr_callV (As := [pv_i 2]) (S := []) (t := 0) dX12_dried_2 mk_X12_193 lm_0 (ci := 12) (q := (RX12, TX12, 36)) rfl rfl rfl rfl (Nat.le_of_ble_eq_true rfl) (by decide) (by decide) (Or.inl rfl) (tmX12_inState e2) ?_
  refine pr_aload_n dX12_dried_5 rfl ?_
  refine pr_iconst dX12_dried_6 ?_
  obtain ⟨q3, e4, h⟩ := pm_bs h
  refine pr_callV (As := [pv_i 3]) (S := [pv_i q1]) (t := 0) dX12_dried_7 mk_X12_193 lm_0 (ci := 12) (q := (RX12, TX12, 36)) rfl rfl rfl rfl (Nat.le_of_ble_eq_true rfl) (by decide) (by decide) (Or.inl rfl) (tmX12_inState e4) ?_
  refine pr_iadd dX12_dried_10 ?_
  have h := Option.some.inj h
  subst h
  exact pr_iret dX12_dried_11 rfl
def bdX12_foretell_54 (y1 : Int) (y2 : Int) (z4 : Int) (σ : pm_M) : Option ((Int × pm_M) ⊕ (Int × pm_M)) :=
  if (wr y1) ≤ (wr z4) then (some (.inl (z4, σ))) else ((fX12_hour σ).bind fun q10 => some (.inr ((z4 + 1), q10)))
set_option maxHeartbeats 4000000 in
set_option maxRecDepth 100000 in
theorem tbX12_foretell_54 {lay0 lay' : List pm_S} {r : Option pm_V} {σ' : pm_M} (y1 : Int) (y2 : Int) : ∀ (a : Int × pm_M) (e : (Int × pm_M) ⊕ (Int × pm_M)), (fun a => bdX12_foretell_54 y1 y2 a.1 a.2) a = some e → (∀ a, e = .inr a → (fun a => pm_J mX12_foretell 5 119 lay0 r lay' σ' 54 [some (pv_r 0), some (pv_i y1), some (pv_i y2), none, some (pv_i a.1), none] [] LAYM a.2) a) → (∀ a, e = .inl a → (fun a => pm_J mX12_foretell 5 119 lay0 r lay' σ' 70 [some (pv_r 0), none, some (pv_i y2), none, none, none] [] LAYM a.2) a) → (fun a => pm_J mX12_foretell 5 119 lay0 r lay' σ' 54 [some (pv_r 0), some (pv_i y1), some (pv_i y2), none, some (pv_i a.1), none] [] LAYM a.2) a := by
  intro a e h hc hx
  obtain ⟨z4, σ⟩ := a
  have h : bdX12_foretell_54 y1 y2 z4 σ = some e := h
  unfold bdX12_foretell_54 at h
  show pm_J mX12_foretell 5 119 lay0 r lay' σ' 54 [some (pv_r 0), some (pv_i y1), some (pv_i y2), none, some (pv_i z4), none] [] LAYM σ
  refine pr_iload dX12_foretell_54 rfl ?_
  refine pr_iload_n dX12_foretell_56 rfl ?_
  refine pr_icmp_ge (tgt := 70) dX12_foretell_57 rfl rfl (by decide) (fun c_9 => ?_) (fun c_9 => ?_)
  · have h := pm_pos c_9 h
    refine pr_weak (L2 := [some (pv_r 0), none, some (pv_i y2), none, none, none]) ⟨Or.inr rfl, Or.inl rfl, Or.inr rfl, Or.inl rfl, Or.inl rfl, Or.inl rfl, trivial⟩ ?_
    exact hx (z4, σ) (Option.some.inj h).symm
  · have h := pm_ng c_9 h
    refine pr_aload_n dX12_foretell_60 rfl ?_
    obtain ⟨q10, e11, h⟩ := pm_bs h
    refine pr_callV (As := []) (S := []) (t := 0) dX12_foretell_61 mk_X12_196 lm_0 (ci := 12) (q := (RX12, TX12, 36)) rfl rfl rfl rfl (Nat.le_of_ble_eq_true rfl) (by decide) (by decide) (Or.inl rfl) (tmX12_hour e11) ?_
    refine pr_iinc dX12_foretell_64 rfl (by decide) rfl ?_
    refine pr_goto (tgt := 54) dX12_foretell_67 (by decide) ?_
    refine pr_weak (L2 := [some (pv_r 0), some (pv_i y1), some (pv_i y2), none, some (pv_i (z4 + 1)), none]) ⟨Or.inr rfl, Or.inr rfl, Or.inr rfl, Or.inl rfl, Or.inr rfl, Or.inl rfl, trivial⟩ ?_
    exact hc ((z4 + 1), q10) (Option.some.inj h).symm
def bdX12_foretell_135 (y2 : Int) (σ : pm_M) (z4 : Int) (z5 : Int) : Option ((Int × Int) ⊕ (Int × Int)) :=
  if 9 ≤ (wr z5) then (some (.inl (z4, z5))) else (if (wr y2) = 4 then (pm_g (0 ≤ (wr (96 + z5)) ∧ (wr (96 + z5)) < 755) (some (.inr ((z4 + (σ 25 (Int.toNat (wr (96 + z5))))), (z5 + 1))))) else (some (.inl (z4, z5))))
set_option maxHeartbeats 4000000 in
set_option maxRecDepth 100000 in
theorem tbX12_foretell_135 {lay0 lay' : List pm_S} {r : Option pm_V} {σ' : pm_M} (y2 : Int) (σ : pm_M) : ∀ (a : Int × Int) (e : (Int × Int) ⊕ (Int × Int)), (fun a => bdX12_foretell_135 y2 σ a.1 a.2) a = some e → (∀ a, e = .inr a → (fun a => pm_J mX12_foretell 5 119 lay0 r lay' σ' 135 [some (pv_r 0), none, some (pv_i y2), none, some (pv_i a.1), some (pv_i a.2)] [] LAYM σ) a) → (∀ a, e = .inl a → (fun a => pm_J mX12_foretell 5 119 lay0 r lay' σ' 168 [some (pv_r 0), none, none, none, some (pv_i a.1), none] [] LAYM σ) a) → (fun a => pm_J mX12_foretell 5 119 lay0 r lay' σ' 135 [some (pv_r 0), none, some (pv_i y2), none, some (pv_i a.1), some (pv_i a.2)] [] LAYM σ) a := by
  intro a e h hc hx
  obtain ⟨z4, z5⟩ := a
  have h : bdX12_foretell_135 y2 σ z4 z5 = some e := h
  unfold bdX12_foretell_135 at h
  show pm_J mX12_foretell 5 119 lay0 r lay' σ' 135 [some (pv_r 0), none, some (pv_i y2), none, some (pv_i z4), some (pv_i z5)] [] LAYM σ
  refine pr_iload dX12_foretell_135 rfl ?_
  refine pr_bipush dX12_foretell_137 (by decide) ?_
  refine pr_icmp_ge (tgt := 168) dX12_foretell_139 rfl (wr_eq (by decide) (by decide)) (by decide) (fun c_18 => ?_) (fun c_18 => ?_)
  · have h := pm_pos c_18 h
    refine pr_weak (L2 := [some (pv_r 0), none, none, none, some (pv_i z4), none]) ⟨Or.inr rfl, Or.inl rfl, Or.inl rfl, Or.inl rfl, Or.inr rfl, Or.inl rfl, trivial⟩ ?_
    exact hx (z4, z5) (Option.some.inj h).symm
  · have h := pm_ng c_18 h
    refine pr_iload_n dX12_foretell_142 rfl ?_
    refine pr_iconst dX12_foretell_143 ?_
    refine pr_icmp_ne (tgt := 168) dX12_foretell_144 rfl (wr_eq (by decide) (by decide)) (by decide) (fun c_19 => ?_) (fun c_19 => ?_)
    · have h := pm_ng c_19 h
      refine pr_weak (L2 := [some (pv_r 0), none, none, none, some (pv_i z4), none]) ⟨Or.inr rfl, Or.inl rfl, Or.inl rfl, Or.inl rfl, Or.inr rfl, Or.inl rfl, trivial⟩ ?_
      exact hx (z4, z5) (Option.some.inj h).symm
    · have h := pm_pos c_19 h
      refine pr_iload dX12_foretell_147 rfl ?_
      refine pr_aload_n dX12_foretell_149 rfl ?_
      refine pr_getR dX12_foretell_150 lk_X12_86 lm_0 rfl ?_
      refine pr_bipush dX12_foretell_153 (by decide) ?_
      refine pr_iload dX12_foretell_155 rfl ?_
      refine pr_iadd dX12_foretell_157 ?_
      obtain ⟨g_20, h⟩ := pm_gs h
      refine pr_iald dX12_foretell_158 lm_25 rfl g_20 ?_
      refine pr_iadd dX12_foretell_159 ?_
      refine pr_istore dX12_foretell_160 (by decide) rfl ?_
      refine pr_iinc dX12_foretell_162 rfl (by decide) rfl ?_
      refine pr_goto (tgt := 135) dX12_foretell_165 (by decide) ?_
      refine pr_weak (L2 := [some (pv_r 0), none, some (pv_i y2), none, some (pv_i (z4 + (σ 25 (Int.toNat (wr (96 + z5)))))), some (pv_i (z5 + 1))]) ⟨Or.inr rfl, Or.inl rfl, Or.inr rfl, Or.inl rfl, Or.inr rfl, Or.inr rfl, trivial⟩ ?_
      exact hc ((z4 + (σ 25 (Int.toNat (wr (96 + z5))))), (z5 + 1)) (Option.some.inj h).symm
def jnX12_foretell_130 (w2 : Int) (u0 : Int) (σ : pm_M) : Option (Int × pm_M) :=
  (pm_it (fun a => bdX12_foretell_135 w2 σ a.1 a.2) pm_fuel (u0, 0)).bind fun v21 => (fX12_ends σ).bind fun q23 => some (v21.1, q23)
set_option maxHeartbeats 4000000 in
set_option maxRecDepth 100000 in
theorem tjX12_foretell_130 {lay0 : List pm_S} {w2 : Int} {u0 : Int} {σ : pm_M} {ρ : Int × pm_M} (h : jnX12_foretell_130 w2 u0 σ = some ρ) : pm_J mX12_foretell 5 119 lay0 (some (pv_i ρ.1)) LAYM ρ.2 130 [some (pv_r 0), none, some (pv_i w2), none, none, none] [pv_i u0] LAYM σ := by
  unfold jnX12_foretell_130 at h
  refine pr_istore dX12_foretell_130 (by decide) rfl ?_
  refine pr_iconst dX12_foretell_132 ?_
  refine pr_istore dX12_foretell_133 (by decide) rfl ?_
  obtain ⟨v21, e22, h⟩ := pm_bs h
  refine pr_weak (L2 := [some (pv_r 0), none, some (pv_i w2), none, some (pv_i u0), some (pv_i 0)]) ⟨Or.inr rfl, Or.inl rfl, Or.inr rfl, Or.inl rfl, Or.inr rfl, Or.inr rfl, trivial⟩ ?_
  refine pm_it_J (α := Int × Int) (β := Int × Int) (f := fun a => bdX12_foretell_135 w2 σ a.1 a.2) (P := fun a => pm_J mX12_foretell 5 119 lay0 (some (pv_i ρ.1)) LAYM ρ.2 135 [some (pv_r 0), none, some (pv_i w2), none, some (pv_i a.1), some (pv_i a.2)] [] LAYM σ) (Rx := fun a => pm_J mX12_foretell 5 119 lay0 (some (pv_i ρ.1)) LAYM ρ.2 168 [some (pv_r 0), none, none, none, some (pv_i a.1), none] [] LAYM σ) (tbX12_foretell_135 w2 σ) pm_fuel (u0, 0) v21 e22 ?_
  show pm_J mX12_foretell 5 119 lay0 (some (pv_i ρ.1)) LAYM ρ.2 168 [some (pv_r 0), none, none, none, some (pv_i v21.1), none] [] LAYM σ
  refine pr_aload_n dX12_foretell_168 rfl ?_
  obtain ⟨q23, e24, h⟩ := pm_bs h
  refine pr_callV (As := []) (S := []) (t := 0) dX12_foretell_169 mk_X12_205 lm_0 (ci := 12) (q := (RX12, TX12, 36)) rfl rfl rfl rfl (Nat.le_of_ble_eq_true rfl) (by decide) (by decide) (Or.inl rfl) (tmX12_ends e24) ?_
  refine pr_iload dX12_foretell_172 rfl ?_
  have h := Option.some.inj h
  subst h
  exact pr_iret dX12_foretell_174 rfl
def jnX12_foretell_36 (w1 : Int) (w2 : Int) (u0 : Int) (σ : pm_M) : Option (Int × pm_M) :=
  if (wr u0) = 0 then ((fX12_begins σ).bind fun q7 => (pm_it (fun a => bdX12_foretell_54 w1 w2 a.1 a.2) pm_fuel (0, q7)).bind fun v12 => if (wr w2) = 0 then (jnX12_foretell_130 w2 (v12.2 25 (Int.toNat 752)) v12.2) else (if (wr w2) = 1 then ((fX12_dried v12.2).bind fun q25 => jnX12_foretell_130 w2 q25 v12.2) else (if (wr w2) = 2 then (jnX12_foretell_130 w2 (v12.2 25 (Int.toNat 753)) v12.2) else (if (wr w2) = 3 then (jnX12_foretell_130 w2 (v12.2 25 (Int.toNat 754)) v12.2) else (jnX12_foretell_130 w2 0 v12.2))))) else ((fX12_refuse u0 σ).bind fun q27 => some (q27.1, q27.2))
set_option maxHeartbeats 4000000 in
set_option maxRecDepth 100000 in
theorem tjX12_foretell_36 {lay0 : List pm_S} {w1 : Int} {w2 : Int} {u0 : Int} {σ : pm_M} {ρ : Int × pm_M} (h : jnX12_foretell_36 w1 w2 u0 σ = some ρ) : pm_J mX12_foretell 5 119 lay0 (some (pv_i ρ.1)) LAYM ρ.2 36 [some (pv_r 0), some (pv_i w1), some (pv_i w2), none, none, none] [pv_i u0] LAYM σ := by
  unfold jnX12_foretell_36 at h
  refine pr_istore_n dX12_foretell_36 (by decide) rfl ?_
  refine pr_iload_n dX12_foretell_37 rfl ?_
  refine pr_if_eq (tgt := 47) dX12_foretell_38 rfl (by decide) (fun c_6 => ?_) (fun c_6 => ?_)
  · have h := pm_pos c_6 h
    refine pr_aload_n dX12_foretell_47 rfl ?_
    obtain ⟨q7, e8, h⟩ := pm_bs h
    refine pr_callV (As := []) (S := []) (t := 0) dX12_foretell_48 mk_X12_199 lm_0 (ci := 12) (q := (RX12, TX12, 36)) rfl rfl rfl rfl (Nat.le_of_ble_eq_true rfl) (by decide) (by decide) (Or.inl rfl) (tmX12_begins e8) ?_
    refine pr_iconst dX12_foretell_51 ?_
    refine pr_istore dX12_foretell_52 (by decide) rfl ?_
    obtain ⟨v12, e13, h⟩ := pm_bs h
    refine pr_weak (L2 := [some (pv_r 0), some (pv_i w1), some (pv_i w2), none, some (pv_i 0), none]) ⟨Or.inr rfl, Or.inr rfl, Or.inr rfl, Or.inl rfl, Or.inr rfl, Or.inl rfl, trivial⟩ ?_
    refine pm_it_J (α := Int × pm_M) (β := Int × pm_M) (f := fun a => bdX12_foretell_54 w1 w2 a.1 a.2) (P := fun a => pm_J mX12_foretell 5 119 lay0 (some (pv_i ρ.1)) LAYM ρ.2 54 [some (pv_r 0), some (pv_i w1), some (pv_i w2), none, some (pv_i a.1), none] [] LAYM a.2) (Rx := fun a => pm_J mX12_foretell 5 119 lay0 (some (pv_i ρ.1)) LAYM ρ.2 70 [some (pv_r 0), none, some (pv_i w2), none, none, none] [] LAYM a.2) (tbX12_foretell_54 w1 w2) pm_fuel (0, q7) v12 e13 ?_
    show pm_J mX12_foretell 5 119 lay0 (some (pv_i ρ.1)) LAYM ρ.2 70 [some (pv_r 0), none, some (pv_i w2), none, none, none] [] LAYM v12.2
    refine pr_iload_n dX12_foretell_70 rfl ?_
    refine pr_if_ne (tgt := 85) dX12_foretell_71 rfl (by decide) (fun c_14 => ?_) (fun c_14 => ?_)
    · have h := pm_ng c_14 h
      refine pr_iload_n dX12_foretell_85 rfl ?_
      refine pr_iconst dX12_foretell_86 ?_
      refine pr_icmp_ne (tgt := 97) dX12_foretell_87 rfl (wr_eq (by decide) (by decide)) (by decide) (fun c_15 => ?_) (fun c_15 => ?_)
      · have h := pm_ng c_15 h
        refine pr_iload_n dX12_foretell_97 rfl ?_
        refine pr_iconst dX12_foretell_98 ?_
        refine pr_icmp_ne (tgt := 113) dX12_foretell_99 rfl (wr_eq (by decide) (by decide)) (by decide) (fun c_16 => ?_) (fun c_16 => ?_)
        · have h := pm_ng c_16 h
          refine pr_iload_n dX12_foretell_113 rfl ?_
          refine pr_iconst dX12_foretell_114 ?_
          refine pr_icmp_ne (tgt := 129) dX12_foretell_115 rfl (wr_eq (by decide) (by decide)) (by decide) (fun c_17 => ?_) (fun c_17 => ?_)
          · have h := pm_ng c_17 h
            refine pr_iconst dX12_foretell_129 ?_
            refine pr_weak (L2 := [some (pv_r 0), none, some (pv_i w2), none, none, none]) ⟨Or.inr rfl, Or.inl rfl, Or.inr rfl, Or.inl rfl, Or.inl rfl, Or.inl rfl, trivial⟩ ?_
            exact tjX12_foretell_130 h
          · have h := pm_pos c_17 h
            refine pr_aload_n dX12_foretell_118 rfl ?_
            refine pr_getR dX12_foretell_119 lk_X12_86 lm_0 rfl ?_
            refine pr_sipush dX12_foretell_122 (by decide) ?_
            refine pr_iald dX12_foretell_125 lm_25 (wr_eq (by decide) (by decide)) ⟨by decide, by decide⟩ ?_
            refine pr_goto (tgt := 130) dX12_foretell_126 (by decide) ?_
            refine pr_weak (L2 := [some (pv_r 0), none, some (pv_i w2), none, none, none]) ⟨Or.inr rfl, Or.inl rfl, Or.inr rfl, Or.inl rfl, Or.inl rfl, Or.inl rfl, trivial⟩ ?_
            exact tjX12_foretell_130 h
        · have h := pm_pos c_16 h
          refine pr_aload_n dX12_foretell_102 rfl ?_
          refine pr_getR dX12_foretell_103 lk_X12_86 lm_0 rfl ?_
          refine pr_sipush dX12_foretell_106 (by decide) ?_
          refine pr_iald dX12_foretell_109 lm_25 (wr_eq (by decide) (by decide)) ⟨by decide, by decide⟩ ?_
          refine pr_goto (tgt := 130) dX12_foretell_110 (by decide) ?_
          refine pr_weak (L2 := [some (pv_r 0), none, some (pv_i w2), none, none, none]) ⟨Or.inr rfl, Or.inl rfl, Or.inr rfl, Or.inl rfl, Or.inl rfl, Or.inl rfl, trivial⟩ ?_
          exact tjX12_foretell_130 h
      · have h := pm_pos c_15 h
        refine pr_aload_n dX12_foretell_90 rfl ?_
        obtain ⟨q25, e26, h⟩ := pm_bs h
        refine pr_callV (As := []) (S := []) (t := 0) dX12_foretell_91 mk_X12_202 lm_0 (ci := 12) (q := (RX12, TX12, 36)) rfl rfl rfl rfl (Nat.le_of_ble_eq_true rfl) (by decide) (by decide) (Or.inl rfl) (tmX12_dried e26) ?_
        refine pr_goto (tgt := 130) dX12_foretell_94 (by decide) ?_
        refine pr_weak (L2 := [some (pv_r 0), none, some (pv_i w2), none, none, none]) ⟨Or.inr rfl, Or.inl rfl, Or.inr rfl, Or.inl rfl, Or.inl rfl, Or.inl rfl, trivial⟩ ?_
        exact tjX12_foretell_130 h
    · have h := pm_pos c_14 h
      refine pr_aload_n dX12_foretell_74 rfl ?_
      refine pr_getR dX12_foretell_75 lk_X12_86 lm_0 rfl ?_
      refine pr_sipush dX12_foretell_78 (by decide) ?_
      refine pr_iald dX12_foretell_81 lm_25 (wr_eq (by decide) (by decide)) ⟨by decide, by decide⟩ ?_
      refine pr_goto (tgt := 130) dX12_foretell_82 (by decide) ?_
      refine pr_weak (L2 := [some (pv_r 0), none, some (pv_i w2), none, none, none]) ⟨Or.inr rfl, Or.inl rfl, Or.inr rfl, Or.inl rfl, Or.inl rfl, Or.inl rfl, trivial⟩ ?_
      exact tjX12_foretell_130 h
  · have h := pm_ng c_6 h
    refine pr_aload_n dX12_foretell_41 rfl ?_
    refine pr_iload_n dX12_foretell_42 rfl ?_
    obtain ⟨q27, e28, h⟩ := pm_bs h
    refine pr_callV (As := [pv_i u0]) (S := []) (t := 0) dX12_foretell_43 mk_X12_103 lm_0 (ci := 12) (q := (RX12, TX12, 36)) rfl rfl rfl rfl (Nat.le_of_ble_eq_true rfl) (by decide) (by decide) (Or.inl rfl) (tmX12_refuse e28) ?_
    have h := Option.some.inj h
    subst h
    exact pr_iret dX12_foretell_46 rfl
def fX12_foretell (x1 : Int) (x2 : Int) (σ : pm_M) : Option (Int × pm_M) :=
  (fX12_isIn x2 5).bind fun q1 => if (wr q1) = 0 then (jnX12_foretell_36 x1 x2 (-2) σ) else ((fX12_wrong x1 1 (pm_min 240 (2400 - (σ 25 (Int.toNat 751))))).bind fun q4 => jnX12_foretell_36 x1 x2 q4 σ)
set_option maxHeartbeats 4000000 in
set_option maxRecDepth 100000 in
theorem tmX12_foretell {x1 : Int} {x2 : Int} {σ : pm_M} {ρ : Int × pm_M} (h : fX12_foretell x1 x2 σ = some ρ) : pm_C mX12_foretell 5 119 [pv_r 0, pv_i x1, pv_i x2] LAYM σ (some (pv_i ρ.1)) LAYM ρ.2 := by
  refine pm_C.of (by decide) rfl (Nat.le_of_ble_eq_true rfl) ?_
  show pm_J mX12_foretell 5 119 LAYM (some (pv_i ρ.1)) LAYM ρ.2 0 [some (pv_r 0), some (pv_i x1), some (pv_i x2), none, none, none] [] LAYM σ
  unfold fX12_foretell at h
  refine pr_iload_n dX12_foretell_0 rfl ?_
  refine pr_iconst dX12_foretell_1 ?_
  obtain ⟨q1, e2, h⟩ := pm_bs h
  refine pr_callS (av := [pv_i x2, pv_i 5]) (S := []) dX12_foretell_2 mk_X12_95 rfl rfl (Nat.le_of_ble_eq_true rfl) (by decide) (by decide) (Or.inl rfl) (tmX12_isIn e2) ?_
  refine pr_if_ne (tgt := 13) dX12_foretell_5 rfl (by decide) (fun c_3 => ?_) (fun c_3 => ?_)
  · have h := pm_ng c_3 h
    refine pr_iload_n dX12_foretell_13 rfl ?_
    refine pr_iconst dX12_foretell_14 ?_
    refine pr_sipush dX12_foretell_15 (by decide) ?_
    refine pr_sipush dX12_foretell_18 (by decide) ?_
    refine pr_aload_n dX12_foretell_21 rfl ?_
    refine pr_getR dX12_foretell_22 lk_X12_86 lm_0 rfl ?_
    refine pr_sipush dX12_foretell_25 (by decide) ?_
    refine pr_iald dX12_foretell_28 lm_25 (wr_eq (by decide) (by decide)) ⟨by decide, by decide⟩ ?_
    refine pr_isub dX12_foretell_29 ?_
    refine pr_mmin dX12_foretell_30 mm_X12_124 (by decide) (Nat.le_of_ble_eq_true rfl) ?_
    obtain ⟨q4, e5, h⟩ := pm_bs h
    refine pr_callS (av := [pv_i x1, pv_i 1, pv_i (pm_min 240 (2400 - (σ 25 (Int.toNat 751))))]) (S := []) dX12_foretell_33 mk_X12_99 rfl rfl (Nat.le_of_ble_eq_true rfl) (by decide) (by decide) (Or.inl rfl) (tmX12_wrong e5) ?_
    refine pr_weak (L2 := [some (pv_r 0), some (pv_i x1), some (pv_i x2), none, none, none]) ⟨Or.inr rfl, Or.inr rfl, Or.inr rfl, Or.inl rfl, Or.inl rfl, Or.inl rfl, trivial⟩ ?_
    exact tjX12_foretell_36 h
  · have h := pm_pos c_3 h
    refine pr_bipush dX12_foretell_8 (by decide) ?_
    refine pr_goto (tgt := 36) dX12_foretell_10 (by decide) ?_
    refine pr_weak (L2 := [some (pv_r 0), some (pv_i x1), some (pv_i x2), none, none, none]) ⟨Or.inr rfl, Or.inr rfl, Or.inr rfl, Or.inl rfl, Or.inl rfl, Or.inl rfl, trivial⟩ ?_
    exact tjX12_foretell_36 h
