def bdX12_hours_40 (y1 : Int) (y3 : Int) (z4 : Int) (σ : pm_M) : Option ((Int × pm_M) ⊕ (Int × pm_M)) :=
  if (wr y1) ≤ (wr z4) then (some (.inl (z4, σ))) else ((fX12_hour σ).bind fun q5 => some (.inr ((z4 + 1), q5)))
set_option maxHeartbeats 4000000 in
set_option maxRecDepth 100000 in
theorem tbX12_hours_40 {lay0 lay' : List pm_S} {r : Option pm_V} {σ' : pm_M} (y1 : Int) (y3 : Int) : ∀ (a : Int × pm_M) (e : (Int × pm_M) ⊕ (Int × pm_M)), (fun a => bdX12_hours_40 y1 y3 a.1 a.2) a = some e → (∀ a, e = .inr a → (fun a => pm_J mX12_hours 5 119 lay0 r lay' σ' 40 [some (pv_r 0), some (pv_i y1), none, some (pv_i y3), some (pv_i a.1)] [] LAYM a.2) a) → (∀ a, e = .inl a → (fun a => pm_J mX12_hours 5 119 lay0 r lay' σ' 56 [some (pv_r 0), none, none, some (pv_i y3), none] [] LAYM a.2) a) → (fun a => pm_J mX12_hours 5 119 lay0 r lay' σ' 40 [some (pv_r 0), some (pv_i y1), none, some (pv_i y3), some (pv_i a.1)] [] LAYM a.2) a := by
  intro a e h hc hx
  obtain ⟨z4, σ⟩ := a
  have h : bdX12_hours_40 y1 y3 z4 σ = some e := h
  unfold bdX12_hours_40 at h
  show pm_J mX12_hours 5 119 lay0 r lay' σ' 40 [some (pv_r 0), some (pv_i y1), none, some (pv_i y3), some (pv_i z4)] [] LAYM σ
  refine pr_iload dX12_hours_40 rfl ?_
  refine pr_iload_n dX12_hours_42 rfl ?_
  refine pr_icmp_ge (tgt := 56) dX12_hours_43 rfl rfl (by decide) (fun c_4 => ?_) (fun c_4 => ?_)
  · have h := pm_pos c_4 h
    refine pr_weak (L2 := [some (pv_r 0), none, none, some (pv_i y3), none]) ⟨Or.inr rfl, Or.inl rfl, Or.inl rfl, Or.inr rfl, Or.inl rfl, trivial⟩ ?_
    exact hx _ (Option.some.inj h).symm
  · have h := pm_ng c_4 h
    refine pr_aload_n dX12_hours_46 rfl ?_
    obtain ⟨q5, e6, h⟩ := pm_bs h
    refine pr_callV (As := []) (S := []) (t := 0) dX12_hours_47 mk_X12_196 lm_0 (ci := 12) (q := (RX12, TX12, 36)) rfl rfl rfl rfl (by decide) (by decide) (by decide) (Or.inl rfl) (tmX12_hour e6) ?_
    refine pr_iinc dX12_hours_50 rfl (by decide) rfl ?_
    refine pr_goto (tgt := 40) dX12_hours_53 (by decide) ?_
    refine pr_weak (L2 := [some (pv_r 0), some (pv_i y1), none, some (pv_i y3), some (pv_i (z4 + 1))]) ⟨Or.inr rfl, Or.inr rfl, Or.inl rfl, Or.inr rfl, Or.inr rfl, trivial⟩ ?_
    exact hc _ (Option.some.inj h).symm
def fX12_hours (x1 : Int) (σ : pm_M) : Option (Int × pm_M) :=
  (fX12_wrong x1 1 (2400 - (σ 25 (Int.toNat 751)))).bind fun q1 => if (wr q1) = 0 then ((pm_it (fun a => bdX12_hours_40 x1 (σ 25 (Int.toNat 752)) a.1 a.2) pm_fuel (0, σ)).bind fun v7 => some (((v7.2 25 (Int.toNat 752)) - (σ 25 (Int.toNat 752))), v7.2)) else ((fX12_refuse q1 σ).bind fun q9 => some (q9.1, q9.2))
set_option maxHeartbeats 4000000 in
set_option maxRecDepth 100000 in
theorem tmX12_hours {x1 : Int} {σ : pm_M} {ρ : Int × pm_M} (h : fX12_hours x1 σ = some ρ) : pm_C mX12_hours 5 119 [pv_r 0, pv_i x1] LAYM σ (some (pv_i ρ.1)) LAYM ρ.2 := by
  refine pm_C.of rfl rfl (by decide) ?_
  show pm_J mX12_hours 5 119 LAYM (some (pv_i ρ.1)) LAYM ρ.2 0 [some (pv_r 0), some (pv_i x1), none, none, none] [] LAYM σ
  unfold fX12_hours at h
  refine pr_iload_n dX12_hours_0 rfl ?_
  refine pr_iconst dX12_hours_1 ?_
  refine pr_sipush dX12_hours_2 (by decide) ?_
  refine pr_aload_n dX12_hours_5 rfl ?_
  refine pr_getR dX12_hours_6 lk_X12_86 lm_0 rfl ?_
  refine pr_sipush dX12_hours_9 (by decide) ?_
  refine pr_iald dX12_hours_12 lm_25 (wr_eq (by decide) (by decide)) ⟨by decide, by decide⟩ ?_
  refine pr_isub dX12_hours_13 ?_
  obtain ⟨q1, e2, h⟩ := pm_bs h
  refine pr_callS (av := [pv_i x1, pv_i 1, pv_i (2400 - (σ 25 (Int.toNat 751)))]) (S := []) dX12_hours_14 mk_X12_99 rfl rfl (by decide) (by decide) (by decide) (Or.inl rfl) (tmX12_wrong e2) ?_
  refine pr_istore_n dX12_hours_17 (by decide) rfl ?_
  refine pr_iload_n dX12_hours_18 rfl ?_
  refine pr_if_eq (tgt := 28) dX12_hours_19 rfl (by decide) (fun c_3 => ?_) (fun c_3 => ?_)
  · have h := pm_pos c_3 h
    refine pr_aload_n dX12_hours_28 rfl ?_
    refine pr_getR dX12_hours_29 lk_X12_86 lm_0 rfl ?_
    refine pr_sipush dX12_hours_32 (by decide) ?_
    refine pr_iald dX12_hours_35 lm_25 (wr_eq (by decide) (by decide)) ⟨by decide, by decide⟩ ?_
    refine pr_istore_n dX12_hours_36 (by decide) rfl ?_
    refine pr_iconst dX12_hours_37 ?_
    refine pr_istore dX12_hours_38 (by decide) rfl ?_
    obtain ⟨v7, e8, h⟩ := pm_bs h
    refine pr_weak (L2 := [some (pv_r 0), some (pv_i x1), none, some (pv_i (σ 25 (Int.toNat 752))), some (pv_i 0)]) ⟨Or.inr rfl, Or.inr rfl, Or.inl rfl, Or.inr rfl, Or.inr rfl, trivial⟩ ?_
    refine pm_it_J (P := fun a => pm_J mX12_hours 5 119 LAYM (some (pv_i ρ.1)) LAYM ρ.2 40 [some (pv_r 0), some (pv_i x1), none, some (pv_i (σ 25 (Int.toNat 752))), some (pv_i a.1)] [] LAYM a.2) (Rx := fun a => pm_J mX12_hours 5 119 LAYM (some (pv_i ρ.1)) LAYM ρ.2 56 [some (pv_r 0), none, none, some (pv_i (σ 25 (Int.toNat 752))), none] [] LAYM a.2) (tbX12_hours_40 x1 (σ 25 (Int.toNat 752))) _ _ _ e8 ?_
    show pm_J mX12_hours 5 119 LAYM (some (pv_i ρ.1)) LAYM ρ.2 56 [some (pv_r 0), none, none, some (pv_i (σ 25 (Int.toNat 752))), none] [] LAYM v7.2
    refine pr_aload_n dX12_hours_56 rfl ?_
    refine pr_getR dX12_hours_57 lk_X12_86 lm_0 rfl ?_
    refine pr_sipush dX12_hours_60 (by decide) ?_
    refine pr_iald dX12_hours_63 lm_25 (wr_eq (by decide) (by decide)) ⟨by decide, by decide⟩ ?_
    refine pr_iload_n dX12_hours_64 rfl ?_
    refine pr_isub dX12_hours_65 ?_
    have h := Option.some.inj h
    subst h
    exact pr_iret dX12_hours_66 rfl
  · have h := pm_ng c_3 h
    refine pr_aload_n dX12_hours_22 rfl ?_
    refine pr_iload_n dX12_hours_23 rfl ?_
    obtain ⟨q9, e10, h⟩ := pm_bs h
    refine pr_callV (As := [pv_i q1]) (S := []) (t := 0) dX12_hours_24 mk_X12_103 lm_0 (ci := 12) (q := (RX12, TX12, 36)) rfl rfl rfl rfl (by decide) (by decide) (by decide) (Or.inl rfl) (tmX12_refuse e10) ?_
    have h := Option.some.inj h
    subst h
    exact pr_iret dX12_hours_27 rfl
def bdX12_begins_2 (z1 : Int) (σ : pm_M) : Option ((Int × pm_M) ⊕ (Int × pm_M)) :=
  if 755 ≤ (wr z1) then (some (.inl (z1, σ))) else (pm_g (0 ≤ (wr z1) ∧ (wr z1) < 755) (pm_g (0 ≤ (wr z1) ∧ (wr z1) < 755) (some (.inr ((z1 + 1), (pm_up σ 26 (Int.toNat (wr z1)) (σ 25 (Int.toNat (wr z1)))))))))
set_option maxHeartbeats 4000000 in
set_option maxRecDepth 100000 in
theorem tbX12_begins_2 {lay0 lay' : List pm_S} {r : Option pm_V} {σ' : pm_M} : ∀ (a : Int × pm_M) (e : (Int × pm_M) ⊕ (Int × pm_M)), (fun a => bdX12_begins_2 a.1 a.2) a = some e → (∀ a, e = .inr a → (fun a => pm_J mX12_begins 0 0 lay0 r lay' σ' 2 [some (pv_r 0), some (pv_i a.1)] [] LAYM a.2) a) → (∀ a, e = .inl a → (fun a => pm_J mX12_begins 0 0 lay0 r lay' σ' 27 [some (pv_r 0), none] [] LAYM a.2) a) → (fun a => pm_J mX12_begins 0 0 lay0 r lay' σ' 2 [some (pv_r 0), some (pv_i a.1)] [] LAYM a.2) a := by
  intro a e h hc hx
  obtain ⟨z1, σ⟩ := a
  have h : bdX12_begins_2 z1 σ = some e := h
  unfold bdX12_begins_2 at h
  show pm_J mX12_begins 0 0 lay0 r lay' σ' 2 [some (pv_r 0), some (pv_i z1)] [] LAYM σ
  refine pr_iload_n dX12_begins_2 rfl ?_
  refine pr_sipush dX12_begins_3 (by decide) ?_
  refine pr_icmp_ge (tgt := 27) dX12_begins_6 rfl (wr_eq (by decide) (by decide)) (by decide) (fun c_1 => ?_) (fun c_1 => ?_)
  · have h := pm_pos c_1 h
    refine pr_weak (L2 := [some (pv_r 0), none]) ⟨Or.inr rfl, Or.inl rfl, trivial⟩ ?_
    exact hx _ (Option.some.inj h).symm
  · have h := pm_ng c_1 h
    refine pr_aload_n dX12_begins_9 rfl ?_
    refine pr_getR dX12_begins_10 lk_X12_89 lm_0 rfl ?_
    refine pr_iload_n dX12_begins_13 rfl ?_
    refine pr_aload_n dX12_begins_14 rfl ?_
    refine pr_getR dX12_begins_15 lk_X12_86 lm_0 rfl ?_
    refine pr_iload_n dX12_begins_18 rfl ?_
    obtain ⟨g_2, h⟩ := pm_gs h
    refine pr_iald dX12_begins_19 lm_25 rfl g_2 ?_
    obtain ⟨g_3, h⟩ := pm_gs h
    refine pr_iast dX12_begins_20 lm_26 rfl g_3 ?_
    refine pr_iinc dX12_begins_21 rfl (by decide) rfl ?_
    refine pr_goto (tgt := 2) dX12_begins_24 (by decide) ?_
    refine pr_weak (L2 := [some (pv_r 0), some (pv_i (z1 + 1))]) ⟨Or.inr rfl, Or.inr rfl, trivial⟩ ?_
    exact hc _ (Option.some.inj h).symm
def fX12_begins (σ : pm_M) : Option (pm_M) :=
  (pm_it (fun a => bdX12_begins_2 a.1 a.2) pm_fuel (0, σ)).bind fun v4 => some (pm_up v4.2 0 32 1)
set_option maxHeartbeats 4000000 in
set_option maxRecDepth 100000 in
theorem tmX12_begins {σ : pm_M} {ρ : pm_M} (h : fX12_begins σ = some ρ) : pm_C mX12_begins 0 0 [pv_r 0] LAYM σ none LAYM ρ := by
  refine pm_C.of rfl rfl (by decide) ?_
  show pm_J mX12_begins 0 0 LAYM none LAYM ρ 0 [some (pv_r 0), none] [] LAYM σ
  unfold fX12_begins at h
  refine pr_iconst dX12_begins_0 ?_
  refine pr_istore_n dX12_begins_1 (by decide) rfl ?_
  obtain ⟨v4, e5, h⟩ := pm_bs h
  refine pr_weak (L2 := [some (pv_r 0), some (pv_i 0)]) ⟨Or.inr rfl, Or.inr rfl, trivial⟩ ?_
  refine pm_it_J (P := fun a => pm_J mX12_begins 0 0 LAYM none LAYM ρ 2 [some (pv_r 0), some (pv_i a.1)] [] LAYM a.2) (Rx := fun a => pm_J mX12_begins 0 0 LAYM none LAYM ρ 27 [some (pv_r 0), none] [] LAYM a.2) (tbX12_begins_2) _ _ _ e5 ?_
  show pm_J mX12_begins 0 0 LAYM none LAYM ρ 27 [some (pv_r 0), none] [] LAYM v4.2
  refine pr_aload_n dX12_begins_27 rfl ?_
  refine pr_iconst dX12_begins_28 ?_
  refine pr_putZ dX12_begins_29 lp_X12_176 lm_0 rfl (Or.inr rfl) ?_
  have h := Option.some.inj h
  subst h
  exact pr_vret dX12_begins_32 rfl
def bdX12_ends_2 (z1 : Int) (σ : pm_M) : Option ((Int × pm_M) ⊕ (Int × pm_M)) :=
  if 755 ≤ (wr z1) then (some (.inl (z1, σ))) else (pm_g (0 ≤ (wr z1) ∧ (wr z1) < 755) (pm_g (0 ≤ (wr z1) ∧ (wr z1) < 755) (some (.inr ((z1 + 1), (pm_up σ 25 (Int.toNat (wr z1)) (σ 26 (Int.toNat (wr z1)))))))))
set_option maxHeartbeats 4000000 in
set_option maxRecDepth 100000 in
theorem tbX12_ends_2 {lay0 lay' : List pm_S} {r : Option pm_V} {σ' : pm_M} : ∀ (a : Int × pm_M) (e : (Int × pm_M) ⊕ (Int × pm_M)), (fun a => bdX12_ends_2 a.1 a.2) a = some e → (∀ a, e = .inr a → (fun a => pm_J mX12_ends 0 0 lay0 r lay' σ' 2 [some (pv_r 0), some (pv_i a.1)] [] LAYM a.2) a) → (∀ a, e = .inl a → (fun a => pm_J mX12_ends 0 0 lay0 r lay' σ' 27 [some (pv_r 0), none] [] LAYM a.2) a) → (fun a => pm_J mX12_ends 0 0 lay0 r lay' σ' 2 [some (pv_r 0), some (pv_i a.1)] [] LAYM a.2) a := by
  intro a e h hc hx
  obtain ⟨z1, σ⟩ := a
  have h : bdX12_ends_2 z1 σ = some e := h
  unfold bdX12_ends_2 at h
  show pm_J mX12_ends 0 0 lay0 r lay' σ' 2 [some (pv_r 0), some (pv_i z1)] [] LAYM σ
  refine pr_iload_n dX12_ends_2 rfl ?_
  refine pr_sipush dX12_ends_3 (by decide) ?_
  refine pr_icmp_ge (tgt := 27) dX12_ends_6 rfl (wr_eq (by decide) (by decide)) (by decide) (fun c_1 => ?_) (fun c_1 => ?_)
  · have h := pm_pos c_1 h
    refine pr_weak (L2 := [some (pv_r 0), none]) ⟨Or.inr rfl, Or.inl rfl, trivial⟩ ?_
    exact hx _ (Option.some.inj h).symm
  · have h := pm_ng c_1 h
    refine pr_aload_n dX12_ends_9 rfl ?_
    refine pr_getR dX12_ends_10 lk_X12_86 lm_0 rfl ?_
    refine pr_iload_n dX12_ends_13 rfl ?_
    refine pr_aload_n dX12_ends_14 rfl ?_
    refine pr_getR dX12_ends_15 lk_X12_89 lm_0 rfl ?_
    refine pr_iload_n dX12_ends_18 rfl ?_
    obtain ⟨g_2, h⟩ := pm_gs h
    refine pr_iald dX12_ends_19 lm_26 rfl g_2 ?_
    obtain ⟨g_3, h⟩ := pm_gs h
    refine pr_iast dX12_ends_20 lm_25 rfl g_3 ?_
    refine pr_iinc dX12_ends_21 rfl (by decide) rfl ?_
    refine pr_goto (tgt := 2) dX12_ends_24 (by decide) ?_
    refine pr_weak (L2 := [some (pv_r 0), some (pv_i (z1 + 1))]) ⟨Or.inr rfl, Or.inr rfl, trivial⟩ ?_
    exact hc _ (Option.some.inj h).symm
def fX12_ends (σ : pm_M) : Option (pm_M) :=
  (pm_it (fun a => bdX12_ends_2 a.1 a.2) pm_fuel (0, σ)).bind fun v4 => some (pm_up v4.2 0 32 0)
set_option maxHeartbeats 4000000 in
set_option maxRecDepth 100000 in
theorem tmX12_ends {σ : pm_M} {ρ : pm_M} (h : fX12_ends σ = some ρ) : pm_C mX12_ends 0 0 [pv_r 0] LAYM σ none LAYM ρ := by
  refine pm_C.of rfl rfl (by decide) ?_
  show pm_J mX12_ends 0 0 LAYM none LAYM ρ 0 [some (pv_r 0), none] [] LAYM σ
  unfold fX12_ends at h
  refine pr_iconst dX12_ends_0 ?_
  refine pr_istore_n dX12_ends_1 (by decide) rfl ?_
  obtain ⟨v4, e5, h⟩ := pm_bs h
  refine pr_weak (L2 := [some (pv_r 0), some (pv_i 0)]) ⟨Or.inr rfl, Or.inr rfl, trivial⟩ ?_
  refine pm_it_J (P := fun a => pm_J mX12_ends 0 0 LAYM none LAYM ρ 2 [some (pv_r 0), some (pv_i a.1)] [] LAYM a.2) (Rx := fun a => pm_J mX12_ends 0 0 LAYM none LAYM ρ 27 [some (pv_r 0), none] [] LAYM a.2) (tbX12_ends_2) _ _ _ e5 ?_
  show pm_J mX12_ends 0 0 LAYM none LAYM ρ 27 [some (pv_r 0), none] [] LAYM v4.2
  refine pr_aload_n dX12_ends_27 rfl ?_
  refine pr_iconst dX12_ends_28 ?_
  refine pr_putZ dX12_ends_29 lp_X12_176 lm_0 rfl (Or.inl rfl) ?_
  have h := Option.some.inj h
  subst h
  exact pr_vret dX12_ends_32 rfl
def fX12_dried (σ : pm_M) : Option (Int) :=
  (fX12_inState 2 σ).bind fun q1 => (fX12_inState 3 σ).bind fun q3 => some (q1 + q3)
set_option maxHeartbeats 4000000 in
set_option maxRecDepth 100000 in
theorem tmX12_dried {σ : pm_M} {ρ : Int} (h : fX12_dried σ = some ρ) : pm_C mX12_dried 2 45 [pv_r 0] LAYM σ (some (pv_i ρ)) LAYM σ := by
  refine pm_C.of rfl rfl (by decide) ?_
  show pm_J mX12_dried 2 45 LAYM (some (pv_i ρ)) LAYM σ 0 [some (pv_r 0)] [] LAYM σ
  unfold fX12_dried at h
  refine pr_aload_n dX12_dried_0 rfl ?_
  refine pr_iconst dX12_dried_1 ?_
  obtain ⟨q1, e2, h⟩ := pm_bs h
  refine pr_callV (As := [pv_i 2]) (S := []) (t := 0) dX12_dried_2 mk_X12_193 lm_0 (ci := 12) (q := (RX12, TX12, 36)) rfl rfl rfl rfl (by decide) (by decide) (by decide) (Or.inl rfl) (tmX12_inState e2) ?_
  refine pr_aload_n dX12_dried_5 rfl ?_
  refine pr_iconst dX12_dried_6 ?_
  obtain ⟨q3, e4, h⟩ := pm_bs h
  refine pr_callV (As := [pv_i 3]) (S := [pv_i q1]) (t := 0) dX12_dried_7 mk_X12_193 lm_0 (ci := 12) (q := (RX12, TX12, 36)) rfl rfl rfl rfl (by decide) (by decide) (by decide) (Or.inl rfl) (tmX12_inState e4) ?_
  refine pr_iadd dX12_dried_10 ?_
  have h := Option.some.inj h
  subst h
  exact pr_iret dX12_dried_11 rfl
def bdX12_foretell_54 (y1 : Int) (y2 : Int) (z4 : Int) (σ : pm_M) : Option ((Int × pm_M) ⊕ (Int × pm_M)) :=
  if (wr y1) ≤ (wr z4) then (some (.inl (z4, σ))) else ((fX12_hour σ).bind fun q12 => some (.inr ((z4 + 1), q12)))
set_option maxHeartbeats 4000000 in
set_option maxRecDepth 100000 in
theorem tbX12_foretell_54 {lay0 lay' : List pm_S} {r : Option pm_V} {σ' : pm_M} (y1 : Int) (y2 : Int) : ∀ (a : Int × pm_M) (e : (Int × pm_M) ⊕ (Int × pm_M)), (fun a => bdX12_foretell_54 y1 y2 a.1 a.2) a = some e → (∀ a, e = .inr a → (fun a => pm_J mX12_foretell 5 119 lay0 r lay' σ' 54 [some (pv_r 0), some (pv_i y1), some (pv_i y2), none, some (pv_i a.1), none] [] LAYM a.2) a) → (∀ a, e = .inl a → (fun a => pm_J mX12_foretell 5 119 lay0 r lay' σ' 70 [some (pv_r 0), none, some (pv_i y2), none, none, none] [] LAYM a.2) a) → (fun a => pm_J mX12_foretell 5 119 lay0 r lay' σ' 54 [some (pv_r 0), some (pv_i y1), some (pv_i y2), none, some (pv_i a.1), none] [] LAYM a.2) a := by
  intro a e h hc hx
  obtain ⟨z4, σ⟩ := a
  have h : bdX12_foretell_54 y1 y2 z4 σ = some e := h
  unfold bdX12_foretell_54 at h
  show pm_J mX12_foretell 5 119 lay0 r lay' σ' 54 [some (pv_r 0), some (pv_i y1), some (pv_i y2), none, some (pv_i z4), none] [] LAYM σ
  refine pr_iload dX12_foretell_54 rfl ?_
  refine pr_iload_n dX12_foretell_56 rfl ?_
  refine pr_icmp_ge (tgt := 70) dX12_foretell_57 rfl rfl (by decide) (fun c_11 => ?_) (fun c_11 => ?_)
  · have h := pm_pos c_11 h
    refine pr_weak (L2 := [some (pv_r 0), none, some (pv_i y2), none, none, none]) ⟨Or.inr rfl, Or.inl rfl, Or.inr rfl, Or.inl rfl, Or.inl rfl, Or.inl rfl, trivial⟩ ?_
    exact hx _ (Option.some.inj h).symm
  · have h := pm_ng c_11 h
    refine pr_aload_n dX12_foretell_60 rfl ?_
    obtain ⟨q12, e13, h⟩ := pm_bs h
    refine pr_callV (As := []) (S := []) (t := 0) dX12_foretell_61 mk_X12_196 lm_0 (ci := 12) (q := (RX12, TX12, 36)) rfl rfl rfl rfl (by decide) (by decide) (by decide) (Or.inl rfl) (tmX12_hour e13) ?_
    refine pr_iinc dX12_foretell_64 rfl (by decide) rfl ?_
    refine pr_goto (tgt := 54) dX12_foretell_67 (by decide) ?_
    refine pr_weak (L2 := [some (pv_r 0), some (pv_i y1), some (pv_i y2), none, some (pv_i (z4 + 1)), none]) ⟨Or.inr rfl, Or.inr rfl, Or.inr rfl, Or.inl rfl, Or.inr rfl, Or.inl rfl, trivial⟩ ?_
    exact hc _ (Option.some.inj h).symm
def bdX12_foretell_135 (y2 : Int) (σ : pm_M) (z4 : Int) (z5 : Int) : Option ((Int × Int) ⊕ (Int × Int)) :=
  if 9 ≤ (wr z5) then (some (.inl (z4, z5))) else (if (wr y2) = 4 then (pm_g (0 ≤ (wr (96 + z5)) ∧ (wr (96 + z5)) < 755) (some (.inr ((z4 + (σ 25 (Int.toNat (wr (96 + z5))))), (z5 + 1))))) else (some (.inl (z4, z5))))
set_option maxHeartbeats 4000000 in
set_option maxRecDepth 100000 in
theorem tbX12_foretell_135 {lay0 lay' : List pm_S} {r : Option pm_V} {σ' : pm_M} (y2 : Int) (σ : pm_M) : ∀ (a : Int × Int) (e : (Int × Int) ⊕ (Int × Int)), (fun a => bdX12_foretell_135 y2 σ a.1 a.2) a = some e → (∀ a, e = .inr a → (fun a => pm_J mX12_foretell 5 119 lay0 r lay' σ' 135 [some (pv_r 0), none, some (pv_i y2), none, some (pv_i a.1), some (pv_i a.2)] [] LAYM σ) a) → (∀ a, e = .inl a → (fun a => pm_J mX12_foretell 5 119 lay0 r lay' σ' 168 [some (pv_r 0), none, none, none, some (pv_i a.1), none] [] LAYM σ) a) → (fun a => pm_J mX12_foretell 5 119 lay0 r lay' σ' 135 [some (pv_r 0), none, some (pv_i y2), none, some (pv_i a.1), some (pv_i a.2)] [] LAYM σ) a := by
  intro a e h hc hx
  obtain ⟨z4, z5⟩ := a
  have h : bdX12_foretell_135 y2 σ z4 z5 = some e := h
  unfold bdX12_foretell_135 at h
  show pm_J mX12_foretell 5 119 lay0 r lay' σ' 135 [some (pv_r 0), none, some (pv_i y2), none, some (pv_i z4), some (pv_i z5)] [] LAYM σ
  refine pr_iload dX12_foretell_135 rfl ?_
  refine pr_bipush dX12_foretell_137 (by decide) ?_
  refine pr_icmp_ge (tgt := 168) dX12_foretell_139 rfl (wr_eq (by decide) (by decide)) (by decide) (fun c_20 => ?_) (fun c_20 => ?_)
  · have h := pm_pos c_20 h
    refine pr_weak (L2 := [some (pv_r 0), none, none, none, some (pv_i z4), none]) ⟨Or.inr rfl, Or.inl rfl, Or.inl rfl, Or.inl rfl, Or.inr rfl, Or.inl rfl, trivial⟩ ?_
    exact hx _ (Option.some.inj h).symm
  · have h := pm_ng c_20 h
    refine pr_iload_n dX12_foretell_142 rfl ?_
    refine pr_iconst dX12_foretell_143 ?_
    refine pr_icmp_ne (tgt := 168) dX12_foretell_144 rfl (wr_eq (by decide) (by decide)) (by decide) (fun c_21 => ?_) (fun c_21 => ?_)
    · have h := pm_ng c_21 h
      refine pr_weak (L2 := [some (pv_r 0), none, none, none, some (pv_i z4), none]) ⟨Or.inr rfl, Or.inl rfl, Or.inl rfl, Or.inl rfl, Or.inr rfl, Or.inl rfl, trivial⟩ ?_
      exact hx _ (Option.some.inj h).symm
    · have h := pm_pos c_21 h
      refine pr_iload dX12_foretell_147 rfl ?_
      refine pr_aload_n dX12_foretell_149 rfl ?_
      refine pr_getR dX12_foretell_150 lk_X12_86 lm_0 rfl ?_
      refine pr_bipush dX12_foretell_153 (by decide) ?_
      refine pr_iload dX12_foretell_155 rfl ?_
      refine pr_iadd dX12_foretell_157 ?_
      obtain ⟨g_22, h⟩ := pm_gs h
      refine pr_iald dX12_foretell_158 lm_25 rfl g_22 ?_
      refine pr_iadd dX12_foretell_159 ?_
      refine pr_istore dX12_foretell_160 (by decide) rfl ?_
      refine pr_iinc dX12_foretell_162 rfl (by decide) rfl ?_
      refine pr_goto (tgt := 135) dX12_foretell_165 (by decide) ?_
      refine pr_weak (L2 := [some (pv_r 0), none, some (pv_i y2), none, some (pv_i (z4 + (σ 25 (Int.toNat (wr (96 + z5)))))), some (pv_i (z5 + 1))]) ⟨Or.inr rfl, Or.inl rfl, Or.inr rfl, Or.inl rfl, Or.inr rfl, Or.inr rfl, trivial⟩ ?_
      exact hc _ (Option.some.inj h).symm
def jnX12_foretell_130 (w2 : Int) (u0 : Int) (σ : pm_M) : Option (Int × pm_M) :=
  (pm_it (fun a => bdX12_foretell_135 w2 σ a.1 a.2) pm_fuel (u0, 0)).bind fun v23 => (fX12_ends σ).bind fun q25 => some (v23.1, q25)
set_option maxHeartbeats 4000000 in
set_option maxRecDepth 100000 in
theorem tjX12_foretell_130 {lay0 : List pm_S} {w2 : Int} {u0 : Int} {σ : pm_M} {ρ : Int × pm_M} (h : jnX12_foretell_130 w2 u0 σ = some ρ) : pm_J mX12_foretell 5 119 lay0 (some (pv_i ρ.1)) LAYM ρ.2 130 [some (pv_r 0), none, some (pv_i w2), none, none, none] [pv_i u0] LAYM σ := by
  unfold jnX12_foretell_130 at h
  refine pr_istore dX12_foretell_130 (by decide) rfl ?_
  refine pr_iconst dX12_foretell_132 ?_
  refine pr_istore dX12_foretell_133 (by decide) rfl ?_
  obtain ⟨v23, e24, h⟩ := pm_bs h
  refine pr_weak (L2 := [some (pv_r 0), none, some (pv_i w2), none, some (pv_i u0), some (pv_i 0)]) ⟨Or.inr rfl, Or.inl rfl, Or.inr rfl, Or.inl rfl, Or.inr rfl, Or.inr rfl, trivial⟩ ?_
  refine pm_it_J (P := fun a => pm_J mX12_foretell 5 119 lay0 (some (pv_i ρ.1)) LAYM ρ.2 135 [some (pv_r 0), none, some (pv_i w2), none, some (pv_i a.1), some (pv_i a.2)] [] LAYM σ) (Rx := fun a => pm_J mX12_foretell 5 119 lay0 (some (pv_i ρ.1)) LAYM ρ.2 168 [some (pv_r 0), none, none, none, some (pv_i a.1), none] [] LAYM σ) (tbX12_foretell_135 w2 σ) _ _ _ e24 ?_
  show pm_J mX12_foretell 5 119 lay0 (some (pv_i ρ.1)) LAYM ρ.2 168 [some (pv_r 0), none, none, none, some (pv_i v23.1), none] [] LAYM σ
  refine pr_aload_n dX12_foretell_168 rfl ?_
  obtain ⟨q25, e26, h⟩ := pm_bs h
  refine pr_callV (As := []) (S := []) (t := 0) dX12_foretell_169 mk_X12_205 lm_0 (ci := 12) (q := (RX12, TX12, 36)) rfl rfl rfl rfl (by decide) (by decide) (by decide) (Or.inl rfl) (tmX12_ends e26) ?_
  refine pr_iload dX12_foretell_172 rfl ?_
  have h := Option.some.inj h
  subst h
  exact pr_iret dX12_foretell_174 rfl
def jnX12_foretell_36 (w1 : Int) (w2 : Int) (u0 : Int) (σ : pm_M) : Option (Int × pm_M) :=
  if (wr u0) = 0 then ((fX12_begins σ).bind fun q9 => (pm_it (fun a => bdX12_foretell_54 w1 w2 a.1 a.2) pm_fuel (0, q9)).bind fun v14 => if (wr w2) = 0 then (jnX12_foretell_130 w2 (v14.2 25 (Int.toNat 752)) v14.2) else (if (wr w2) = 1 then ((fX12_dried v14.2).bind fun q27 => jnX12_foretell_130 w2 q27 v14.2) else (if (wr w2) = 2 then (jnX12_foretell_130 w2 (v14.2 25 (Int.toNat 753)) v14.2) else (if (wr w2) = 3 then (jnX12_foretell_130 w2 (v14.2 25 (Int.toNat 754)) v14.2) else (jnX12_foretell_130 w2 0 v14.2))))) else ((fX12_refuse u0 σ).bind fun q29 => some (q29.1, q29.2))
set_option maxHeartbeats 4000000 in
set_option maxRecDepth 100000 in
theorem tjX12_foretell_36 {lay0 : List pm_S} {w1 : Int} {w2 : Int} {u0 : Int} {σ : pm_M} {ρ : Int × pm_M} (h : jnX12_foretell_36 w1 w2 u0 σ = some ρ) : pm_J mX12_foretell 5 119 lay0 (some (pv_i ρ.1)) LAYM ρ.2 36 [some (pv_r 0), some (pv_i w1), some (pv_i w2), none, none, none] [pv_i u0] LAYM σ := by
  unfold jnX12_foretell_36 at h
  refine pr_istore_n dX12_foretell_36 (by decide) rfl ?_
  refine pr_iload_n dX12_foretell_37 rfl ?_
  refine pr_if_eq (tgt := 47) dX12_foretell_38 rfl (by decide) (fun c_8 => ?_) (fun c_8 => ?_)
  · have h := pm_pos c_8 h
    refine pr_aload_n dX12_foretell_47 rfl ?_
    obtain ⟨q9, e10, h⟩ := pm_bs h
    refine pr_callV (As := []) (S := []) (t := 0) dX12_foretell_48 mk_X12_199 lm_0 (ci := 12) (q := (RX12, TX12, 36)) rfl rfl rfl rfl (by decide) (by decide) (by decide) (Or.inl rfl) (tmX12_begins e10) ?_
    refine pr_iconst dX12_foretell_51 ?_
    refine pr_istore dX12_foretell_52 (by decide) rfl ?_
    obtain ⟨v14, e15, h⟩ := pm_bs h
    refine pr_weak (L2 := [some (pv_r 0), some (pv_i w1), some (pv_i w2), none, some (pv_i 0), none]) ⟨Or.inr rfl, Or.inr rfl, Or.inr rfl, Or.inl rfl, Or.inr rfl, Or.inl rfl, trivial⟩ ?_
    refine pm_it_J (P := fun a => pm_J mX12_foretell 5 119 lay0 (some (pv_i ρ.1)) LAYM ρ.2 54 [some (pv_r 0), some (pv_i w1), some (pv_i w2), none, some (pv_i a.1), none] [] LAYM a.2) (Rx := fun a => pm_J mX12_foretell 5 119 lay0 (some (pv_i ρ.1)) LAYM ρ.2 70 [some (pv_r 0), none, some (pv_i w2), none, none, none] [] LAYM a.2) (tbX12_foretell_54 w1 w2) _ _ _ e15 ?_
    show pm_J mX12_foretell 5 119 lay0 (some (pv_i ρ.1)) LAYM ρ.2 70 [some (pv_r 0), none, some (pv_i w2), none, none, none] [] LAYM v14.2
    refine pr_iload_n dX12_foretell_70 rfl ?_
    refine pr_if_ne (tgt := 85) dX12_foretell_71 rfl (by decide) (fun c_16 => ?_) (fun c_16 => ?_)
    · have h := pm_ng c_16 h
      refine pr_iload_n dX12_foretell_85 rfl ?_
      refine pr_iconst dX12_foretell_86 ?_
      refine pr_icmp_ne (tgt := 97) dX12_foretell_87 rfl (wr_eq (by decide) (by decide)) (by decide) (fun c_17 => ?_) (fun c_17 => ?_)
      · have h := pm_ng c_17 h
        refine pr_iload_n dX12_foretell_97 rfl ?_
        refine pr_iconst dX12_foretell_98 ?_
        refine pr_icmp_ne (tgt := 113) dX12_foretell_99 rfl (wr_eq (by decide) (by decide)) (by decide) (fun c_18 => ?_) (fun c_18 => ?_)
        · have h := pm_ng c_18 h
          refine pr_iload_n dX12_foretell_113 rfl ?_
          refine pr_iconst dX12_foretell_114 ?_
          refine pr_icmp_ne (tgt := 129) dX12_foretell_115 rfl (wr_eq (by decide) (by decide)) (by decide) (fun c_19 => ?_) (fun c_19 => ?_)
          · have h := pm_ng c_19 h
            refine pr_iconst dX12_foretell_129 ?_
            refine pr_weak (L2 := [some (pv_r 0), none, some (pv_i w2), none, none, none]) ⟨Or.inr rfl, Or.inl rfl, Or.inr rfl, Or.inl rfl, Or.inl rfl, Or.inl rfl, trivial⟩ ?_
            exact tjX12_foretell_130 h
          · have h := pm_pos c_19 h
            refine pr_aload_n dX12_foretell_118 rfl ?_
            refine pr_getR dX12_foretell_119 lk_X12_86 lm_0 rfl ?_
            refine pr_sipush dX12_foretell_122 (by decide) ?_
            refine pr_iald dX12_foretell_125 lm_25 (wr_eq (by decide) (by decide)) ⟨by decide, by decide⟩ ?_
            refine pr_goto (tgt := 130) dX12_foretell_126 (by decide) ?_
            refine pr_weak (L2 := [some (pv_r 0), none, some (pv_i w2), none, none, none]) ⟨Or.inr rfl, Or.inl rfl, Or.inr rfl, Or.inl rfl, Or.inl rfl, Or.inl rfl, trivial⟩ ?_
            exact tjX12_foretell_130 h
        · have h := pm_pos c_18 h
          refine pr_aload_n dX12_foretell_102 rfl ?_
          refine pr_getR dX12_foretell_103 lk_X12_86 lm_0 rfl ?_
          refine pr_sipush dX12_foretell_106 (by decide) ?_
          refine pr_iald dX12_foretell_109 lm_25 (wr_eq (by decide) (by decide)) ⟨by decide, by decide⟩ ?_
          refine pr_goto (tgt := 130) dX12_foretell_110 (by decide) ?_
          refine pr_weak (L2 := [some (pv_r 0), none, some (pv_i w2), none, none, none]) ⟨Or.inr rfl, Or.inl rfl, Or.inr rfl, Or.inl rfl, Or.inl rfl, Or.inl rfl, trivial⟩ ?_
          exact tjX12_foretell_130 h
      · have h := pm_pos c_17 h
        refine pr_aload_n dX12_foretell_90 rfl ?_
        obtain ⟨q27, e28, h⟩ := pm_bs h
        refine pr_callV (As := []) (S := []) (t := 0) dX12_foretell_91 mk_X12_202 lm_0 (ci := 12) (q := (RX12, TX12, 36)) rfl rfl rfl rfl (by decide) (by decide) (by decide) (Or.inl rfl) (tmX12_dried e28) ?_
        refine pr_goto (tgt := 130) dX12_foretell_94 (by decide) ?_
        refine pr_weak (L2 := [some (pv_r 0), none, some (pv_i w2), none, none, none]) ⟨Or.inr rfl, Or.inl rfl, Or.inr rfl, Or.inl rfl, Or.inl rfl, Or.inl rfl, trivial⟩ ?_
        exact tjX12_foretell_130 h
    · have h := pm_pos c_16 h
      refine pr_aload_n dX12_foretell_74 rfl ?_
      refine pr_getR dX12_foretell_75 lk_X12_86 lm_0 rfl ?_
      refine pr_sipush dX12_foretell_78 (by decide) ?_
      refine pr_iald dX12_foretell_81 lm_25 (wr_eq (by decide) (by decide)) ⟨by decide, by decide⟩ ?_
      refine pr_goto (tgt := 130) dX12_foretell_82 (by decide) ?_
      refine pr_weak (L2 := [some (pv_r 0), none, some (pv_i w2), none, none, none]) ⟨Or.inr rfl, Or.inl rfl, Or.inr rfl, Or.inl rfl, Or.inl rfl, Or.inl rfl, trivial⟩ ?_
      exact tjX12_foretell_130 h
  · have h := pm_ng c_8 h
    refine pr_aload_n dX12_foretell_41 rfl ?_
    refine pr_iload_n dX12_foretell_42 rfl ?_
    obtain ⟨q29, e30, h⟩ := pm_bs h
    refine pr_callV (As := [pv_i u0]) (S := []) (t := 0) dX12_foretell_43 mk_X12_103 lm_0 (ci := 12) (q := (RX12, TX12, 36)) rfl rfl rfl rfl (by decide) (by decide) (by decide) (Or.inl rfl) (tmX12_refuse e30) ?_
    have h := Option.some.inj h
    subst h
    exact pr_iret dX12_foretell_46 rfl
def fX12_foretell (x1 : Int) (x2 : Int) (σ : pm_M) : Option (Int × pm_M) :=
  (fX12_isIn x2 5).bind fun q1 => if (wr q1) = 0 then (jnX12_foretell_36 x1 x2 (-2) σ) else ((fJ9_min_7cf53 240 (2400 - (σ 25 (Int.toNat 751)))).bind fun q4 => (fX12_wrong x1 1 q4).bind fun q6 => jnX12_foretell_36 x1 x2 q6 σ)
set_option maxHeartbeats 4000000 in
set_option maxRecDepth 100000 in
theorem tmX12_foretell {x1 : Int} {x2 : Int} {σ : pm_M} {ρ : Int × pm_M} (h : fX12_foretell x1 x2 σ = some ρ) : pm_C mX12_foretell 5 119 [pv_r 0, pv_i x1, pv_i x2] LAYM σ (some (pv_i ρ.1)) LAYM ρ.2 := by
  refine pm_C.of rfl rfl (by decide) ?_
  show pm_J mX12_foretell 5 119 LAYM (some (pv_i ρ.1)) LAYM ρ.2 0 [some (pv_r 0), some (pv_i x1), some (pv_i x2), none, none, none] [] LAYM σ
  unfold fX12_foretell at h
  refine pr_iload_n dX12_foretell_0 rfl ?_
  refine pr_iconst dX12_foretell_1 ?_
  obtain ⟨q1, e2, h⟩ := pm_bs h
  refine pr_callS (av := [pv_i x2, pv_i 5]) (S := []) dX12_foretell_2 mk_X12_95 rfl rfl (by decide) (by decide) (by decide) (Or.inl rfl) (tmX12_isIn e2) ?_
  refine pr_if_ne (tgt := 13) dX12_foretell_5 rfl (by decide) (fun c_3 => ?_) (fun c_3 => ?_)
  · have h := pm_ng c_3 h
    refine pr_iload_n dX12_foretell_13 rfl ?_
    refine pr_iconst dX12_foretell_14 ?_
    refine pr_sipush dX12_foretell_15 (by decide) ?_
    refine pr_sipush dX12_foretell_18 (by decide) ?_
    refine pr_aload_n dX12_foretell_21 rfl ?_
    refine pr_getR dX12_foretell_22 lk_X12_86 lm_0 rfl ?_
    refine pr_sipush dX12_foretell_25 (by decide) ?_
    refine pr_iald dX12_foretell_28 lm_25 (wr_eq (by decide) (by decide)) ⟨by decide, by decide⟩ ?_
    refine pr_isub dX12_foretell_29 ?_
    obtain ⟨q4, e5, h⟩ := pm_bs h
    refine pr_callS (av := [pv_i 240, pv_i (2400 - (σ 25 (Int.toNat 751)))]) (S := [pv_i 1, pv_i x1]) dX12_foretell_30 mk_X12_124 rfl rfl (by decide) (by decide) (by decide) (Or.inl rfl) (tmJ9_min_7cf53 e5) ?_
    obtain ⟨q6, e7, h⟩ := pm_bs h
    refine pr_callS (av := [pv_i x1, pv_i 1, pv_i q4]) (S := []) dX12_foretell_33 mk_X12_99 rfl rfl (by decide) (by decide) (by decide) (Or.inl rfl) (tmX12_wrong e7) ?_
    refine pr_weak (L2 := [some (pv_r 0), some (pv_i x1), some (pv_i x2), none, none, none]) ⟨Or.inr rfl, Or.inr rfl, Or.inr rfl, Or.inl rfl, Or.inl rfl, Or.inl rfl, trivial⟩ ?_
    exact tjX12_foretell_36 h
  · have h := pm_pos c_3 h
    refine pr_bipush dX12_foretell_8 (by decide) ?_
    refine pr_goto (tgt := 36) dX12_foretell_10 (by decide) ?_
    refine pr_weak (L2 := [some (pv_r 0), some (pv_i x1), some (pv_i x2), none, none, none]) ⟨Or.inr rfl, Or.inr rfl, Or.inr rfl, Or.inl rfl, Or.inl rfl, Or.inl rfl, trivial⟩ ?_
    exact tjX12_foretell_36 h
def bdX12_when_24 (y1 : Int) (z3 : Int) (σ : pm_M) : Option ((Int × pm_M) ⊕ (Int × pm_M)) :=
  if 240 ≤ (wr z3) then (some (.inl (z3, σ))) else ((fX12_dried σ).bind fun q7 => if (wr y1) ≤ (wr q7) then (some (.inl (z3, σ))) else (if 2400 ≤ (wr (σ 25 (Int.toNat 751))) then (some (.inl (z3, σ))) else ((fX12_hour σ).bind fun q11 => some (.inr ((z3 + 1), q11)))))
set_option maxHeartbeats 4000000 in
set_option maxRecDepth 100000 in
theorem tbX12_when_24 {lay0 lay' : List pm_S} {r : Option pm_V} {σ' : pm_M} (y1 : Int) : ∀ (a : Int × pm_M) (e : (Int × pm_M) ⊕ (Int × pm_M)), (fun a => bdX12_when_24 y1 a.1 a.2) a = some e → (∀ a, e = .inr a → (fun a => pm_J mX12_when 5 119 lay0 r lay' σ' 24 [some (pv_r 0), some (pv_i y1), none, some (pv_i a.1)] [] LAYM a.2) a) → (∀ a, e = .inl a → (fun a => pm_J mX12_when 5 119 lay0 r lay' σ' 63 [some (pv_r 0), some (pv_i y1), none, none] [] LAYM a.2) a) → (fun a => pm_J mX12_when 5 119 lay0 r lay' σ' 24 [some (pv_r 0), some (pv_i y1), none, some (pv_i a.1)] [] LAYM a.2) a := by
  intro a e h hc hx
  obtain ⟨z3, σ⟩ := a
  have h : bdX12_when_24 y1 z3 σ = some e := h
  unfold bdX12_when_24 at h
  show pm_J mX12_when 5 119 lay0 r lay' σ' 24 [some (pv_r 0), some (pv_i y1), none, some (pv_i z3)] [] LAYM σ
  refine pr_iload_n dX12_when_24 rfl ?_
  refine pr_sipush dX12_when_25 (by decide) ?_
  refine pr_icmp_ge (tgt := 63) dX12_when_28 rfl (wr_eq (by decide) (by decide)) (by decide) (fun c_6 => ?_) (fun c_6 => ?_)
  · have h := pm_pos c_6 h
    refine pr_weak (L2 := [some (pv_r 0), some (pv_i y1), none, none]) ⟨Or.inr rfl, Or.inr rfl, Or.inl rfl, Or.inl rfl, trivial⟩ ?_
    exact hx _ (Option.some.inj h).symm
  · have h := pm_ng c_6 h
    refine pr_aload_n dX12_when_31 rfl ?_
    obtain ⟨q7, e8, h⟩ := pm_bs h
    refine pr_callV (As := []) (S := []) (t := 0) dX12_when_32 mk_X12_202 lm_0 (ci := 12) (q := (RX12, TX12, 36)) rfl rfl rfl rfl (by decide) (by decide) (by decide) (Or.inl rfl) (tmX12_dried e8) ?_
    refine pr_iload_n dX12_when_35 rfl ?_
    refine pr_icmp_ge (tgt := 63) dX12_when_36 rfl rfl (by decide) (fun c_9 => ?_) (fun c_9 => ?_)
    · have h := pm_pos c_9 h
      refine pr_weak (L2 := [some (pv_r 0), some (pv_i y1), none, none]) ⟨Or.inr rfl, Or.inr rfl, Or.inl rfl, Or.inl rfl, trivial⟩ ?_
      exact hx _ (Option.some.inj h).symm
    · have h := pm_ng c_9 h
      refine pr_aload_n dX12_when_39 rfl ?_
      refine pr_getR dX12_when_40 lk_X12_86 lm_0 rfl ?_
      refine pr_sipush dX12_when_43 (by decide) ?_
      refine pr_iald dX12_when_46 lm_25 (wr_eq (by decide) (by decide)) ⟨by decide, by decide⟩ ?_
      refine pr_sipush dX12_when_47 (by decide) ?_
      refine pr_icmp_ge (tgt := 63) dX12_when_50 rfl (wr_eq (by decide) (by decide)) (by decide) (fun c_10 => ?_) (fun c_10 => ?_)
      · have h := pm_pos c_10 h
        refine pr_weak (L2 := [some (pv_r 0), some (pv_i y1), none, none]) ⟨Or.inr rfl, Or.inr rfl, Or.inl rfl, Or.inl rfl, trivial⟩ ?_
        exact hx _ (Option.some.inj h).symm
      · have h := pm_ng c_10 h
        refine pr_aload_n dX12_when_53 rfl ?_
        obtain ⟨q11, e12, h⟩ := pm_bs h
        refine pr_callV (As := []) (S := []) (t := 0) dX12_when_54 mk_X12_196 lm_0 (ci := 12) (q := (RX12, TX12, 36)) rfl rfl rfl rfl (by decide) (by decide) (by decide) (Or.inl rfl) (tmX12_hour e12) ?_
        refine pr_iinc dX12_when_57 rfl (by decide) rfl ?_
        refine pr_goto (tgt := 24) dX12_when_60 (by decide) ?_
        refine pr_weak (L2 := [some (pv_r 0), some (pv_i y1), none, some (pv_i (z3 + 1))]) ⟨Or.inr rfl, Or.inr rfl, Or.inl rfl, Or.inr rfl, trivial⟩ ?_
        exact hc _ (Option.some.inj h).symm
def jnX12_when_63 (w1 : Int) (σ : pm_M) : Option (Int × pm_M) :=
  (fX12_dried σ).bind fun q15 => if (wr q15) < (wr w1) then ((fX12_ends σ).bind fun q18 => some ((-9), q18)) else ((fX12_ends σ).bind fun q20 => some ((σ 25 (Int.toNat 751)), q20))
set_option maxHeartbeats 4000000 in
set_option maxRecDepth 100000 in
theorem tjX12_when_63 {lay0 : List pm_S} {w1 : Int} {σ : pm_M} {ρ : Int × pm_M} (h : jnX12_when_63 w1 σ = some ρ) : pm_J mX12_when 5 119 lay0 (some (pv_i ρ.1)) LAYM ρ.2 63 [some (pv_r 0), some (pv_i w1), none, none] [] LAYM σ := by
  unfold jnX12_when_63 at h
  refine pr_aload_n dX12_when_63 rfl ?_
  obtain ⟨q15, e16, h⟩ := pm_bs h
  refine pr_callV (As := []) (S := []) (t := 0) dX12_when_64 mk_X12_202 lm_0 (ci := 12) (q := (RX12, TX12, 36)) rfl rfl rfl rfl (by decide) (by decide) (by decide) (Or.inl rfl) (tmX12_dried e16) ?_
  refine pr_iload_n dX12_when_67 rfl ?_
  refine pr_icmp_lt (tgt := 82) dX12_when_68 rfl rfl (by decide) (fun c_17 => ?_) (fun c_17 => ?_)
  · have h := pm_pos c_17 h
    refine pr_bipush dX12_when_82 (by decide) ?_
    refine pr_istore_n dX12_when_84 (by decide) rfl ?_
    refine pr_aload_n dX12_when_85 rfl ?_
    obtain ⟨q18, e19, h⟩ := pm_bs h
    refine pr_callV (As := []) (S := []) (t := 0) dX12_when_86 mk_X12_205 lm_0 (ci := 12) (q := (RX12, TX12, 36)) rfl rfl rfl rfl (by decide) (by decide) (by decide) (Or.inl rfl) (tmX12_ends e19) ?_
    refine pr_iload_n dX12_when_89 rfl ?_
    have h := Option.some.inj h
    subst h
    exact pr_iret dX12_when_90 rfl
  · have h := pm_ng c_17 h
    refine pr_aload_n dX12_when_71 rfl ?_
    refine pr_getR dX12_when_72 lk_X12_86 lm_0 rfl ?_
    refine pr_sipush dX12_when_75 (by decide) ?_
    refine pr_iald dX12_when_78 lm_25 (wr_eq (by decide) (by decide)) ⟨by decide, by decide⟩ ?_
    refine pr_goto (tgt := 84) dX12_when_79 (by decide) ?_
    refine pr_istore_n dX12_when_84 (by decide) rfl ?_
    refine pr_aload_n dX12_when_85 rfl ?_
    obtain ⟨q20, e21, h⟩ := pm_bs h
    refine pr_callV (As := []) (S := []) (t := 0) dX12_when_86 mk_X12_205 lm_0 (ci := 12) (q := (RX12, TX12, 36)) rfl rfl rfl rfl (by decide) (by decide) (by decide) (Or.inl rfl) (tmX12_ends e21) ?_
    refine pr_iload_n dX12_when_89 rfl ?_
    have h := Option.some.inj h
    subst h
    exact pr_iret dX12_when_90 rfl
def fX12_when (x1 : Int) (σ : pm_M) : Option (Int × pm_M) :=
  (fX12_wrong x1 0 80).bind fun q1 => if (wr q1) = 0 then ((fX12_begins σ).bind fun q4 => (pm_it (fun a => bdX12_when_24 x1 a.1 a.2) pm_fuel (0, q4)).bind fun v13 => jnX12_when_63 x1 v13.2) else ((fX12_refuse q1 σ).bind fun q22 => some (q22.1, q22.2))
set_option maxHeartbeats 4000000 in
set_option maxRecDepth 100000 in
theorem tmX12_when {x1 : Int} {σ : pm_M} {ρ : Int × pm_M} (h : fX12_when x1 σ = some ρ) : pm_C mX12_when 5 119 [pv_r 0, pv_i x1] LAYM σ (some (pv_i ρ.1)) LAYM ρ.2 := by
  refine pm_C.of rfl rfl (by decide) ?_
  show pm_J mX12_when 5 119 LAYM (some (pv_i ρ.1)) LAYM ρ.2 0 [some (pv_r 0), some (pv_i x1), none, none] [] LAYM σ
  unfold fX12_when at h
  refine pr_iload_n dX12_when_0 rfl ?_
  refine pr_iconst dX12_when_1 ?_
  refine pr_bipush dX12_when_2 (by decide) ?_
  obtain ⟨q1, e2, h⟩ := pm_bs h
  refine pr_callS (av := [pv_i x1, pv_i 0, pv_i 80]) (S := []) dX12_when_4 mk_X12_99 rfl rfl (by decide) (by decide) (by decide) (Or.inl rfl) (tmX12_wrong e2) ?_
  refine pr_istore_n dX12_when_7 (by decide) rfl ?_
  refine pr_iload_n dX12_when_8 rfl ?_
  refine pr_if_eq (tgt := 18) dX12_when_9 rfl (by decide) (fun c_3 => ?_) (fun c_3 => ?_)
  · have h := pm_pos c_3 h
    refine pr_aload_n dX12_when_18 rfl ?_
    obtain ⟨q4, e5, h⟩ := pm_bs h
    refine pr_callV (As := []) (S := []) (t := 0) dX12_when_19 mk_X12_199 lm_0 (ci := 12) (q := (RX12, TX12, 36)) rfl rfl rfl rfl (by decide) (by decide) (by decide) (Or.inl rfl) (tmX12_begins e5) ?_
    refine pr_iconst dX12_when_22 ?_
    refine pr_istore_n dX12_when_23 (by decide) rfl ?_
    obtain ⟨v13, e14, h⟩ := pm_bs h
    refine pr_weak (L2 := [some (pv_r 0), some (pv_i x1), none, some (pv_i 0)]) ⟨Or.inr rfl, Or.inr rfl, Or.inl rfl, Or.inr rfl, trivial⟩ ?_
    refine pm_it_J (P := fun a => pm_J mX12_when 5 119 LAYM (some (pv_i ρ.1)) LAYM ρ.2 24 [some (pv_r 0), some (pv_i x1), none, some (pv_i a.1)] [] LAYM a.2) (Rx := fun a => pm_J mX12_when 5 119 LAYM (some (pv_i ρ.1)) LAYM ρ.2 63 [some (pv_r 0), some (pv_i x1), none, none] [] LAYM a.2) (tbX12_when_24 x1) _ _ _ e14 ?_
    show pm_J mX12_when 5 119 LAYM (some (pv_i ρ.1)) LAYM ρ.2 63 [some (pv_r 0), some (pv_i x1), none, none] [] LAYM v13.2
    refine pr_weak (L2 := [some (pv_r 0), some (pv_i x1), none, none]) ⟨Or.inr rfl, Or.inr rfl, Or.inl rfl, Or.inl rfl, trivial⟩ ?_
    exact tjX12_when_63 h
  · have h := pm_ng c_3 h
    refine pr_aload_n dX12_when_12 rfl ?_
    refine pr_iload_n dX12_when_13 rfl ?_
    obtain ⟨q22, e23, h⟩ := pm_bs h
    refine pr_callV (As := [pv_i q1]) (S := []) (t := 0) dX12_when_14 mk_X12_103 lm_0 (ci := 12) (q := (RX12, TX12, 36)) rfl rfl rfl rfl (by decide) (by decide) (by decide) (Or.inl rfl) (tmX12_refuse e23) ?_
    have h := Option.some.inj h
    subst h
    exact pr_iret dX12_when_17 rfl
def fX12_mark (x1 : Int) (x2 : Int) (x3 : Int) (σ : pm_M) : Option (Int × pm_M) :=
  (fX12_isIn x1 (σ 25 (Int.toNat 752))).bind fun q1 => if (wr q1) = 0 then ((fX12_refuse (-1) σ).bind fun q4 => some (q4.1, q4.2)) else ((fX12_isIn x2 60).bind fun q6 => if (wr q6) = 0 then ((fX12_refuse (-1) σ).bind fun q9 => some (q9.1, q9.2)) else ((fX12_isIn x3 6).bind fun q11 => if (wr q11) = 0 then ((fX12_refuse (-1) σ).bind fun q14 => some (q14.1, q14.2)) else (pm_g (0 ≤ (wr ((6 * ((60 * x1) + x2)) + x3)) ∧ (wr ((6 * ((60 * x1) + x2)) + x3)) < 28800) (some ((σ 22 (Int.toNat (wr ((6 * ((60 * x1) + x2)) + x3)))), σ)))))
set_option maxHeartbeats 4000000 in
set_option maxRecDepth 100000 in
theorem tmX12_mark {x1 : Int} {x2 : Int} {x3 : Int} {σ : pm_M} {ρ : Int × pm_M} (h : fX12_mark x1 x2 x3 σ = some ρ) : pm_C mX12_mark 1 21 [pv_r 0, pv_i x1, pv_i x2, pv_i x3] LAYM σ (some (pv_i ρ.1)) LAYM ρ.2 := by
  refine pm_C.of rfl rfl (by decide) ?_
  show pm_J mX12_mark 1 21 LAYM (some (pv_i ρ.1)) LAYM ρ.2 0 [some (pv_r 0), some (pv_i x1), some (pv_i x2), some (pv_i x3)] [] LAYM σ
  unfold fX12_mark at h
  refine pr_iload_n dX12_mark_0 rfl ?_
  refine pr_aload_n dX12_mark_1 rfl ?_
  refine pr_getR dX12_mark_2 lk_X12_86 lm_0 rfl ?_
  refine pr_sipush dX12_mark_5 (by decide) ?_
  refine pr_iald dX12_mark_8 lm_25 (wr_eq (by decide) (by decide)) ⟨by decide, by decide⟩ ?_
  obtain ⟨q1, e2, h⟩ := pm_bs h
  refine pr_callS (av := [pv_i x1, pv_i (σ 25 (Int.toNat 752))]) (S := []) dX12_mark_9 mk_X12_95 rfl rfl (by decide) (by decide) (by decide) (Or.inl rfl) (tmX12_isIn e2) ?_
  refine pr_if_eq (tgt := 52) dX12_mark_12 rfl (by decide) (fun c_3 => ?_) (fun c_3 => ?_)
  · have h := pm_pos c_3 h
    refine pr_aload_n dX12_mark_52 rfl ?_
    refine pr_iconst dX12_mark_53 ?_
    obtain ⟨q4, e5, h⟩ := pm_bs h
    refine pr_callV (As := [pv_i (-1)]) (S := []) (t := 0) dX12_mark_54 mk_X12_103 lm_0 (ci := 12) (q := (RX12, TX12, 36)) rfl rfl rfl rfl (by decide) (by decide) (by decide) (Or.inl rfl) (tmX12_refuse e5) ?_
    have h := Option.some.inj h
    subst h
    exact pr_iret dX12_mark_57 rfl
  · have h := pm_ng c_3 h
    refine pr_iload_n dX12_mark_15 rfl ?_
    refine pr_bipush dX12_mark_16 (by decide) ?_
    obtain ⟨q6, e7, h⟩ := pm_bs h
    refine pr_callS (av := [pv_i x2, pv_i 60]) (S := []) dX12_mark_18 mk_X12_95 rfl rfl (by decide) (by decide) (by decide) (Or.inl rfl) (tmX12_isIn e7) ?_
    refine pr_if_eq (tgt := 52) dX12_mark_21 rfl (by decide) (fun c_8 => ?_) (fun c_8 => ?_)
    · have h := pm_pos c_8 h
      refine pr_aload_n dX12_mark_52 rfl ?_
      refine pr_iconst dX12_mark_53 ?_
      obtain ⟨q9, e10, h⟩ := pm_bs h
      refine pr_callV (As := [pv_i (-1)]) (S := []) (t := 0) dX12_mark_54 mk_X12_103 lm_0 (ci := 12) (q := (RX12, TX12, 36)) rfl rfl rfl rfl (by decide) (by decide) (by decide) (Or.inl rfl) (tmX12_refuse e10) ?_
      have h := Option.some.inj h
      subst h
      exact pr_iret dX12_mark_57 rfl
    · have h := pm_ng c_8 h
      refine pr_iload_n dX12_mark_24 rfl ?_
      refine pr_bipush dX12_mark_25 (by decide) ?_
      obtain ⟨q11, e12, h⟩ := pm_bs h
      refine pr_callS (av := [pv_i x3, pv_i 6]) (S := []) dX12_mark_27 mk_X12_95 rfl rfl (by decide) (by decide) (by decide) (Or.inl rfl) (tmX12_isIn e12) ?_
      refine pr_if_eq (tgt := 52) dX12_mark_30 rfl (by decide) (fun c_13 => ?_) (fun c_13 => ?_)
      · have h := pm_pos c_13 h
        refine pr_aload_n dX12_mark_52 rfl ?_
        refine pr_iconst dX12_mark_53 ?_
        obtain ⟨q14, e15, h⟩ := pm_bs h
        refine pr_callV (As := [pv_i (-1)]) (S := []) (t := 0) dX12_mark_54 mk_X12_103 lm_0 (ci := 12) (q := (RX12, TX12, 36)) rfl rfl rfl rfl (by decide) (by decide) (by decide) (Or.inl rfl) (tmX12_refuse e15) ?_
        have h := Option.some.inj h
        subst h
        exact pr_iret dX12_mark_57 rfl
      · have h := pm_ng c_13 h
        refine pr_aload_n dX12_mark_33 rfl ?_
        refine pr_getR dX12_mark_34 lk_X12_77 lm_0 rfl ?_
        refine pr_bipush dX12_mark_37 (by decide) ?_
        refine pr_bipush dX12_mark_39 (by decide) ?_
        refine pr_iload_n dX12_mark_41 rfl ?_
        refine pr_imul dX12_mark_42 ?_
        refine pr_iload_n dX12_mark_43 rfl ?_
        refine pr_iadd dX12_mark_44 ?_
        refine pr_imul dX12_mark_45 ?_
        refine pr_iload_n dX12_mark_46 rfl ?_
        refine pr_iadd dX12_mark_47 ?_
        obtain ⟨g_16, h⟩ := pm_gs h
        refine pr_iald dX12_mark_48 lm_22 rfl g_16 ?_
        refine pr_goto (tgt := 57) dX12_mark_49 (by decide) ?_
        have h := Option.some.inj h
        subst h
        exact pr_iret dX12_mark_57 rfl
def fX12_olds (x1 : Int) (x2 : Int) (x3 : Int) (x4 : Int) (σ : pm_M) : Option (Int × pm_M) :=
  if (wr x2) < (-1) then ((fX12_refuse (-4) σ).bind fun q2 => some (q2.1, q2.2)) else (if (wr x3) < (-1) then ((fX12_refuse (-4) σ).bind fun q5 => some (q5.1, q5.2)) else (if (-1) ≤ (wr x4) then (if 99 < (wr x2) then ((fX12_refuse (-6) σ).bind fun q9 => some (q9.1, q9.2)) else (if 99 < (wr x3) then ((fX12_refuse (-6) σ).bind fun q12 => some (q12.1, q12.2)) else (if (wr x4) ≤ 99 then (pm_g (0 ≤ (wr x1) ∧ (wr x1) < 6) (pm_g (0 ≤ (wr (x1 + 1)) ∧ (wr (x1 + 1)) < 6) (pm_g (0 ≤ (wr (x1 + 2)) ∧ (wr (x1 + 2)) < 6) (some (1, (pm_up (pm_up (pm_up σ 24 (Int.toNat (wr x1)) x2) 24 (Int.toNat (wr (x1 + 1))) x3) 24 (Int.toNat (wr (x1 + 2))) x4)))))) else ((fX12_refuse (-6) σ).bind fun q18 => some (q18.1, q18.2))))) else ((fX12_refuse (-4) σ).bind fun q20 => some (q20.1, q20.2))))
set_option maxHeartbeats 4000000 in
set_option maxRecDepth 100000 in
theorem tmX12_olds {x1 : Int} {x2 : Int} {x3 : Int} {x4 : Int} {σ : pm_M} {ρ : Int × pm_M} (h : fX12_olds x1 x2 x3 x4 σ = some ρ) : pm_C mX12_olds 1 21 [pv_r 0, pv_i x1, pv_i x2, pv_i x3, pv_i x4] LAYM σ (some (pv_i ρ.1)) LAYM ρ.2 := by
  refine pm_C.of rfl rfl (by decide) ?_
  show pm_J mX12_olds 1 21 LAYM (some (pv_i ρ.1)) LAYM ρ.2 0 [some (pv_r 0), some (pv_i x1), some (pv_i x2), some (pv_i x3), some (pv_i x4)] [] LAYM σ
  unfold fX12_olds at h
  refine pr_iload_n dX12_olds_0 rfl ?_
  refine pr_iconst dX12_olds_1 ?_
  refine pr_icmp_lt (tgt := 16) dX12_olds_2 rfl (wr_eq (by decide) (by decide)) (by decide) (fun c_1 => ?_) (fun c_1 => ?_)
  · have h := pm_pos c_1 h
    refine pr_aload_n dX12_olds_16 rfl ?_
    refine pr_bipush dX12_olds_17 (by decide) ?_
    obtain ⟨q2, e3, h⟩ := pm_bs h
    refine pr_callV (As := [pv_i (-4)]) (S := []) (t := 0) dX12_olds_19 mk_X12_103 lm_0 (ci := 12) (q := (RX12, TX12, 36)) rfl rfl rfl rfl (by decide) (by decide) (by decide) (Or.inl rfl) (tmX12_refuse e3) ?_
    have h := Option.some.inj h
    subst h
    exact pr_iret dX12_olds_22 rfl
  · have h := pm_ng c_1 h
    refine pr_iload_n dX12_olds_5 rfl ?_
    refine pr_iconst dX12_olds_6 ?_
    refine pr_icmp_lt (tgt := 16) dX12_olds_7 rfl (wr_eq (by decide) (by decide)) (by decide) (fun c_4 => ?_) (fun c_4 => ?_)
    · have h := pm_pos c_4 h
      refine pr_aload_n dX12_olds_16 rfl ?_
      refine pr_bipush dX12_olds_17 (by decide) ?_
      obtain ⟨q5, e6, h⟩ := pm_bs h
      refine pr_callV (As := [pv_i (-4)]) (S := []) (t := 0) dX12_olds_19 mk_X12_103 lm_0 (ci := 12) (q := (RX12, TX12, 36)) rfl rfl rfl rfl (by decide) (by decide) (by decide) (Or.inl rfl) (tmX12_refuse e6) ?_
      have h := Option.some.inj h
      subst h
      exact pr_iret dX12_olds_22 rfl
    · have h := pm_ng c_4 h
      refine pr_iload dX12_olds_10 rfl ?_
      refine pr_iconst dX12_olds_12 ?_
      refine pr_icmp_ge (tgt := 23) dX12_olds_13 rfl (wr_eq (by decide) (by decide)) (by decide) (fun c_7 => ?_) (fun c_7 => ?_)
      · have h := pm_pos c_7 h
        refine pr_iload_n dX12_olds_23 rfl ?_
        refine pr_bipush dX12_olds_24 (by decide) ?_
        refine pr_icmp_gt (tgt := 42) dX12_olds_26 rfl (wr_eq (by decide) (by decide)) (by decide) (fun c_8 => ?_) (fun c_8 => ?_)
        · have h := pm_pos c_8 h
          refine pr_aload_n dX12_olds_42 rfl ?_
          refine pr_bipush dX12_olds_43 (by decide) ?_
          obtain ⟨q9, e10, h⟩ := pm_bs h
          refine pr_callV (As := [pv_i (-6)]) (S := []) (t := 0) dX12_olds_45 mk_X12_103 lm_0 (ci := 12) (q := (RX12, TX12, 36)) rfl rfl rfl rfl (by decide) (by decide) (by decide) (Or.inl rfl) (tmX12_refuse e10) ?_
          have h := Option.some.inj h
          subst h
          exact pr_iret dX12_olds_48 rfl
        · have h := pm_ng c_8 h
          refine pr_iload_n dX12_olds_29 rfl ?_
          refine pr_bipush dX12_olds_30 (by decide) ?_
          refine pr_icmp_gt (tgt := 42) dX12_olds_32 rfl (wr_eq (by decide) (by decide)) (by decide) (fun c_11 => ?_) (fun c_11 => ?_)
          · have h := pm_pos c_11 h
            refine pr_aload_n dX12_olds_42 rfl ?_
            refine pr_bipush dX12_olds_43 (by decide) ?_
            obtain ⟨q12, e13, h⟩ := pm_bs h
            refine pr_callV (As := [pv_i (-6)]) (S := []) (t := 0) dX12_olds_45 mk_X12_103 lm_0 (ci := 12) (q := (RX12, TX12, 36)) rfl rfl rfl rfl (by decide) (by decide) (by decide) (Or.inl rfl) (tmX12_refuse e13) ?_
            have h := Option.some.inj h
            subst h
            exact pr_iret dX12_olds_48 rfl
          · have h := pm_ng c_11 h
            refine pr_iload dX12_olds_35 rfl ?_
            refine pr_bipush dX12_olds_37 (by decide) ?_
            refine pr_icmp_le (tgt := 49) dX12_olds_39 rfl (wr_eq (by decide) (by decide)) (by decide) (fun c_14 => ?_) (fun c_14 => ?_)
            · have h := pm_pos c_14 h
              refine pr_aload_n dX12_olds_49 rfl ?_
              refine pr_getR dX12_olds_50 lk_X12_83 lm_0 rfl ?_
              refine pr_iload_n dX12_olds_53 rfl ?_
              refine pr_iload_n dX12_olds_54 rfl ?_
              obtain ⟨g_15, h⟩ := pm_gs h
              refine pr_iast dX12_olds_55 lm_24 rfl g_15 ?_
              refine pr_aload_n dX12_olds_56 rfl ?_
              refine pr_getR dX12_olds_57 lk_X12_83 lm_0 rfl ?_
              refine pr_iload_n dX12_olds_60 rfl ?_
              refine pr_iconst dX12_olds_61 ?_
              refine pr_iadd dX12_olds_62 ?_
              refine pr_iload_n dX12_olds_63 rfl ?_
              obtain ⟨g_16, h⟩ := pm_gs h
              refine pr_iast dX12_olds_64 lm_24 rfl g_16 ?_
              refine pr_aload_n dX12_olds_65 rfl ?_
              refine pr_getR dX12_olds_66 lk_X12_83 lm_0 rfl ?_
              refine pr_iload_n dX12_olds_69 rfl ?_
              refine pr_iconst dX12_olds_70 ?_
              refine pr_iadd dX12_olds_71 ?_
              refine pr_iload dX12_olds_72 rfl ?_
              obtain ⟨g_17, h⟩ := pm_gs h
              refine pr_iast dX12_olds_74 lm_24 rfl g_17 ?_
              refine pr_iconst dX12_olds_75 ?_
              have h := Option.some.inj h
              subst h
              exact pr_iret dX12_olds_76 rfl
            · have h := pm_ng c_14 h
              refine pr_aload_n dX12_olds_42 rfl ?_
              refine pr_bipush dX12_olds_43 (by decide) ?_
              obtain ⟨q18, e19, h⟩ := pm_bs h
              refine pr_callV (As := [pv_i (-6)]) (S := []) (t := 0) dX12_olds_45 mk_X12_103 lm_0 (ci := 12) (q := (RX12, TX12, 36)) rfl rfl rfl rfl (by decide) (by decide) (by decide) (Or.inl rfl) (tmX12_refuse e19) ?_
              have h := Option.some.inj h
              subst h
              exact pr_iret dX12_olds_48 rfl
      · have h := pm_ng c_7 h
        refine pr_aload_n dX12_olds_16 rfl ?_
        refine pr_bipush dX12_olds_17 (by decide) ?_
        obtain ⟨q20, e21, h⟩ := pm_bs h
        refine pr_callV (As := [pv_i (-4)]) (S := []) (t := 0) dX12_olds_19 mk_X12_103 lm_0 (ci := 12) (q := (RX12, TX12, 36)) rfl rfl rfl rfl (by decide) (by decide) (by decide) (Or.inl rfl) (tmX12_refuse e21) ?_
        have h := Option.some.inj h
        subst h
        exact pr_iret dX12_olds_22 rfl
def fX12_oldA (x1 : Int) (x2 : Int) (x3 : Int) (σ : pm_M) : Option (Int × pm_M) :=
  (fX12_olds 0 x1 x2 x3 σ).bind fun q1 => some (q1.1, q1.2)
set_option maxHeartbeats 4000000 in
set_option maxRecDepth 100000 in
theorem tmX12_oldA {x1 : Int} {x2 : Int} {x3 : Int} {σ : pm_M} {ρ : Int × pm_M} (h : fX12_oldA x1 x2 x3 σ = some ρ) : pm_C mX12_oldA 2 45 [pv_r 0, pv_i x1, pv_i x2, pv_i x3] LAYM σ (some (pv_i ρ.1)) LAYM ρ.2 := by
  refine pm_C.of rfl rfl (by decide) ?_
  show pm_J mX12_oldA 2 45 LAYM (some (pv_i ρ.1)) LAYM ρ.2 0 [some (pv_r 0), some (pv_i x1), some (pv_i x2), some (pv_i x3)] [] LAYM σ
  unfold fX12_oldA at h
  refine pr_aload_n dX12_oldA_0 rfl ?_
  refine pr_iconst dX12_oldA_1 ?_
  refine pr_iload_n dX12_oldA_2 rfl ?_
  refine pr_iload_n dX12_oldA_3 rfl ?_
  refine pr_iload_n dX12_oldA_4 rfl ?_
  obtain ⟨q1, e2, h⟩ := pm_bs h
  refine pr_callV (As := [pv_i 0, pv_i x1, pv_i x2, pv_i x3]) (S := []) (t := 0) dX12_oldA_5 mk_X12_208 lm_0 (ci := 12) (q := (RX12, TX12, 36)) rfl rfl rfl rfl (by decide) (by decide) (by decide) (Or.inl rfl) (tmX12_olds e2) ?_
  have h := Option.some.inj h
  subst h
  exact pr_iret dX12_oldA_8 rfl
def fX12_oldB (x1 : Int) (x2 : Int) (x3 : Int) (σ : pm_M) : Option (Int × pm_M) :=
  (fX12_olds 3 x1 x2 x3 σ).bind fun q1 => some (q1.1, q1.2)
set_option maxHeartbeats 4000000 in
set_option maxRecDepth 100000 in
theorem tmX12_oldB {x1 : Int} {x2 : Int} {x3 : Int} {σ : pm_M} {ρ : Int × pm_M} (h : fX12_oldB x1 x2 x3 σ = some ρ) : pm_C mX12_oldB 2 45 [pv_r 0, pv_i x1, pv_i x2, pv_i x3] LAYM σ (some (pv_i ρ.1)) LAYM ρ.2 := by
  refine pm_C.of rfl rfl (by decide) ?_
  show pm_J mX12_oldB 2 45 LAYM (some (pv_i ρ.1)) LAYM ρ.2 0 [some (pv_r 0), some (pv_i x1), some (pv_i x2), some (pv_i x3)] [] LAYM σ
  unfold fX12_oldB at h
  refine pr_aload_n dX12_oldB_0 rfl ?_
  refine pr_iconst dX12_oldB_1 ?_
  refine pr_iload_n dX12_oldB_2 rfl ?_
  refine pr_iload_n dX12_oldB_3 rfl ?_
  refine pr_iload_n dX12_oldB_4 rfl ?_
  obtain ⟨q1, e2, h⟩ := pm_bs h
  refine pr_callV (As := [pv_i 3, pv_i x1, pv_i x2, pv_i x3]) (S := []) (t := 0) dX12_oldB_5 mk_X12_208 lm_0 (ci := 12) (q := (RX12, TX12, 36)) rfl rfl rfl rfl (by decide) (by decide) (by decide) (Or.inl rfl) (tmX12_olds e2) ?_
  have h := Option.some.inj h
  subst h
  exact pr_iret dX12_oldB_8 rfl
def fX12_far (x1 : Int) (x2 : Int) (σ : pm_M) : Option (Int) :=
  pm_g (0 ≤ (wr x2) ∧ (wr x2) < 6) (if 0 ≤ (wr (σ 24 (Int.toNat (wr x2)))) then (pm_g (0 ≤ (wr x2) ∧ (wr x2) < 6) (pm_g (0 ≤ (wr ((6 * x1) + x2)) ∧ (wr ((6 * x1) + x2)) < 28800) ((fJ9_abs_0f7a4 ((σ 24 (Int.toNat (wr x2))) - (σ 22 (Int.toNat (wr ((6 * x1) + x2)))))).bind fun q5 => some q5))) else (some 0))
set_option maxHeartbeats 4000000 in
set_option maxRecDepth 100000 in
theorem tmX12_far {x1 : Int} {x2 : Int} {σ : pm_M} {ρ : Int} (h : fX12_far x1 x2 σ = some ρ) : pm_C mX12_far 1 20 [pv_r 0, pv_i x1, pv_i x2] LAYM σ (some (pv_i ρ)) LAYM σ := by
  refine pm_C.of rfl rfl (by decide) ?_
  show pm_J mX12_far 1 20 LAYM (some (pv_i ρ)) LAYM σ 0 [some (pv_r 0), some (pv_i x1), some (pv_i x2)] [] LAYM σ
  unfold fX12_far at h
  refine pr_aload_n dX12_far_0 rfl ?_
  refine pr_getR dX12_far_1 lk_X12_83 lm_0 rfl ?_
  refine pr_iload_n dX12_far_4 rfl ?_
  obtain ⟨g_1, h⟩ := pm_gs h
  refine pr_iald dX12_far_5 lm_24 rfl g_1 ?_
  refine pr_if_ge (tgt := 13) dX12_far_6 rfl (by decide) (fun c_2 => ?_) (fun c_2 => ?_)
  · have h := pm_pos c_2 h
    refine pr_aload_n dX12_far_13 rfl ?_
    refine pr_getR dX12_far_14 lk_X12_83 lm_0 rfl ?_
    refine pr_iload_n dX12_far_17 rfl ?_
    obtain ⟨g_3, h⟩ := pm_gs h
    refine pr_iald dX12_far_18 lm_24 rfl g_3 ?_
    refine pr_aload_n dX12_far_19 rfl ?_
    refine pr_getR dX12_far_20 lk_X12_77 lm_0 rfl ?_
    refine pr_bipush dX12_far_23 (by decide) ?_
    refine pr_iload_n dX12_far_25 rfl ?_
    refine pr_imul dX12_far_26 ?_
    refine pr_iload_n dX12_far_27 rfl ?_
    refine pr_iadd dX12_far_28 ?_
    obtain ⟨g_4, h⟩ := pm_gs h
    refine pr_iald dX12_far_29 lm_22 rfl g_4 ?_
    refine pr_isub dX12_far_30 ?_
    obtain ⟨q5, e6, h⟩ := pm_bs h
    refine pr_callS (av := [pv_i ((σ 24 (Int.toNat (wr x2))) - (σ 22 (Int.toNat (wr ((6 * x1) + x2)))))]) (S := []) dX12_far_31 mk_X12_212 rfl rfl (by decide) (by decide) (by decide) (Or.inl rfl) (tmJ9_abs_0f7a4 e6) ?_
    have h := Option.some.inj h
    subst h
    exact pr_iret dX12_far_34 rfl
  · have h := pm_ng c_2 h
    refine pr_iconst dX12_far_9 ?_
    refine pr_goto (tgt := 34) dX12_far_10 (by decide) ?_
    have h := Option.some.inj h
    subst h
    exact pr_iret dX12_far_34 rfl
def bdX12_isBy_5 (y1 : Int) (y2 : Int) (σ : pm_M) (z3 : Int) (z4 : Int) : Option ((Int × Int) ⊕ (Int × Int)) :=
  if 6 ≤ (wr z4) then (some (.inl (z3, z4))) else (if (wr z3) = 0 then (some (.inr (0, (z4 + 1)))) else ((fX12_far y1 z4 σ).bind fun q3 => if (wr y2) < (wr q3) then (some (.inr (0, (z4 + 1)))) else (some (.inr (1, (z4 + 1))))))
set_option maxHeartbeats 4000000 in
set_option maxRecDepth 100000 in
theorem tbX12_isBy_5 {lay0 lay' : List pm_S} {r : Option pm_V} {σ' : pm_M} (y1 : Int) (y2 : Int) (σ : pm_M) : ∀ (a : Int × Int) (e : (Int × Int) ⊕ (Int × Int)), (fun a => bdX12_isBy_5 y1 y2 σ a.1 a.2) a = some e → (∀ a, e = .inr a → (fun a => pm_J mX12_isBy 2 42 lay0 r lay' σ' 5 [some (pv_r 0), some (pv_i y1), some (pv_i y2), some (pv_i a.1), some (pv_i a.2)] [] LAYM σ) a) → (∀ a, e = .inl a → (fun a => pm_J mX12_isBy 2 42 lay0 r lay' σ' 39 [none, none, none, some (pv_i a.1), none] [] LAYM σ) a) → (fun a => pm_J mX12_isBy 2 42 lay0 r lay' σ' 5 [some (pv_r 0), some (pv_i y1), some (pv_i y2), some (pv_i a.1), some (pv_i a.2)] [] LAYM σ) a := by
  intro a e h hc hx
  obtain ⟨z3, z4⟩ := a
  have h : bdX12_isBy_5 y1 y2 σ z3 z4 = some e := h
  unfold bdX12_isBy_5 at h
  show pm_J mX12_isBy 2 42 lay0 r lay' σ' 5 [some (pv_r 0), some (pv_i y1), some (pv_i y2), some (pv_i z3), some (pv_i z4)] [] LAYM σ
  refine pr_iload dX12_isBy_5 rfl ?_
  refine pr_bipush dX12_isBy_7 (by decide) ?_
  refine pr_icmp_ge (tgt := 39) dX12_isBy_9 rfl (wr_eq (by decide) (by decide)) (by decide) (fun c_1 => ?_) (fun c_1 => ?_)
  · have h := pm_pos c_1 h
    refine pr_weak (L2 := [none, none, none, some (pv_i z3), none]) ⟨Or.inl rfl, Or.inl rfl, Or.inl rfl, Or.inr rfl, Or.inl rfl, trivial⟩ ?_
    exact hx _ (Option.some.inj h).symm
  · have h := pm_ng c_1 h
    refine pr_iload_n dX12_isBy_12 rfl ?_
    refine pr_if_eq (tgt := 31) dX12_isBy_13 rfl (by decide) (fun c_2 => ?_) (fun c_2 => ?_)
    · have h := pm_pos c_2 h
      refine pr_iconst dX12_isBy_31 ?_
      refine pr_istore_n dX12_isBy_32 (by decide) rfl ?_
      refine pr_iinc dX12_isBy_33 rfl (by decide) rfl ?_
      refine pr_goto (tgt := 5) dX12_isBy_36 (by decide) ?_
      refine pr_weak (L2 := [some (pv_r 0), some (pv_i y1), some (pv_i y2), some (pv_i 0), some (pv_i (z4 + 1))]) ⟨Or.inr rfl, Or.inr rfl, Or.inr rfl, Or.inr rfl, Or.inr rfl, trivial⟩ ?_
      exact hc _ (Option.some.inj h).symm
    · have h := pm_ng c_2 h
      refine pr_aload_n dX12_isBy_16 rfl ?_
      refine pr_iload_n dX12_isBy_17 rfl ?_
      refine pr_iload dX12_isBy_18 rfl ?_
      obtain ⟨q3, e4, h⟩ := pm_bs h
      refine pr_callV (As := [pv_i y1, pv_i z4]) (S := []) (t := 0) dX12_isBy_20 mk_X12_215 lm_0 (ci := 12) (q := (RX12, TX12, 36)) rfl rfl rfl rfl (by decide) (by decide) (by decide) (Or.inl rfl) (tmX12_far e4) ?_
      refine pr_iload_n dX12_isBy_23 rfl ?_
      refine pr_icmp_gt (tgt := 31) dX12_isBy_24 rfl rfl (by decide) (fun c_5 => ?_) (fun c_5 => ?_)
      · have h := pm_pos c_5 h
        refine pr_iconst dX12_isBy_31 ?_
        refine pr_istore_n dX12_isBy_32 (by decide) rfl ?_
        refine pr_iinc dX12_isBy_33 rfl (by decide) rfl ?_
        refine pr_goto (tgt := 5) dX12_isBy_36 (by decide) ?_
        refine pr_weak (L2 := [some (pv_r 0), some (pv_i y1), some (pv_i y2), some (pv_i 0), some (pv_i (z4 + 1))]) ⟨Or.inr rfl, Or.inr rfl, Or.inr rfl, Or.inr rfl, Or.inr rfl, trivial⟩ ?_
        exact hc _ (Option.some.inj h).symm
      · have h := pm_ng c_5 h
        refine pr_iconst dX12_isBy_27 ?_
        refine pr_goto (tgt := 32) dX12_isBy_28 (by decide) ?_
        refine pr_istore_n dX12_isBy_32 (by decide) rfl ?_
        refine pr_iinc dX12_isBy_33 rfl (by decide) rfl ?_
        refine pr_goto (tgt := 5) dX12_isBy_36 (by decide) ?_
        refine pr_weak (L2 := [some (pv_r 0), some (pv_i y1), some (pv_i y2), some (pv_i 1), some (pv_i (z4 + 1))]) ⟨Or.inr rfl, Or.inr rfl, Or.inr rfl, Or.inr rfl, Or.inr rfl, trivial⟩ ?_
        exact hc _ (Option.some.inj h).symm
def fX12_isBy (x1 : Int) (x2 : Int) (σ : pm_M) : Option (Int) :=
  (pm_it (fun a => bdX12_isBy_5 x1 x2 σ a.1 a.2) pm_fuel (1, 0)).bind fun v6 => pm_g (v6.1 = 0 ∨ v6.1 = 1) (some v6.1)
set_option maxHeartbeats 4000000 in
set_option maxRecDepth 100000 in
theorem tmX12_isBy {x1 : Int} {x2 : Int} {σ : pm_M} {ρ : Int} (h : fX12_isBy x1 x2 σ = some ρ) : pm_C mX12_isBy 2 42 [pv_r 0, pv_i x1, pv_i x2] LAYM σ (some (pv_i ρ)) LAYM σ := by
  refine pm_C.of rfl rfl (by decide) ?_
  show pm_J mX12_isBy 2 42 LAYM (some (pv_i ρ)) LAYM σ 0 [some (pv_r 0), some (pv_i x1), some (pv_i x2), none, none] [] LAYM σ
  unfold fX12_isBy at h
  refine pr_iconst dX12_isBy_0 ?_
  refine pr_istore_n dX12_isBy_1 (by decide) rfl ?_
  refine pr_iconst dX12_isBy_2 ?_
  refine pr_istore dX12_isBy_3 (by decide) rfl ?_
  obtain ⟨v6, e7, h⟩ := pm_bs h
  refine pr_weak (L2 := [some (pv_r 0), some (pv_i x1), some (pv_i x2), some (pv_i 1), some (pv_i 0)]) ⟨Or.inr rfl, Or.inr rfl, Or.inr rfl, Or.inr rfl, Or.inr rfl, trivial⟩ ?_
  refine pm_it_J (P := fun a => pm_J mX12_isBy 2 42 LAYM (some (pv_i ρ)) LAYM σ 5 [some (pv_r 0), some (pv_i x1), some (pv_i x2), some (pv_i a.1), some (pv_i a.2)] [] LAYM σ) (Rx := fun a => pm_J mX12_isBy 2 42 LAYM (some (pv_i ρ)) LAYM σ 39 [none, none, none, some (pv_i a.1), none] [] LAYM σ) (tbX12_isBy_5 x1 x2 σ) _ _ _ e7 ?_
  show pm_J mX12_isBy 2 42 LAYM (some (pv_i ρ)) LAYM σ 39 [none, none, none, some (pv_i v6.1), none] [] LAYM σ
  refine pr_iload_n dX12_isBy_39 rfl ?_
  obtain ⟨g_8, h⟩ := pm_gs h
  have h := Option.some.inj h
  subst h
  exact pr_zret dX12_isBy_40 rfl g_8
def bdX12_lies_23 (y1 : Int) (σ : pm_M) (z3 : Int) (z4 : Int) : Option ((Int × Int) ⊕ (Int × Int)) :=
  if (wr (60 * (σ 25 (Int.toNat 752)))) ≤ (wr z4) then (some (.inl (z3, z4))) else ((fX12_isBy z4 y1 σ).bind fun q5 => if (wr q5) = 0 then (some (.inr ((z3 + 0), (z4 + 1)))) else (some (.inr ((z3 + 1), (z4 + 1)))))
set_option maxHeartbeats 4000000 in
set_option maxRecDepth 100000 in
theorem tbX12_lies_23 {lay0 lay' : List pm_S} {r : Option pm_V} {σ' : pm_M} (y1 : Int) (σ : pm_M) : ∀ (a : Int × Int) (e : (Int × Int) ⊕ (Int × Int)), (fun a => bdX12_lies_23 y1 σ a.1 a.2) a = some e → (∀ a, e = .inr a → (fun a => pm_J mX12_lies 3 66 lay0 r lay' σ' 23 [some (pv_r 0), some (pv_i y1), none, some (pv_i a.1), some (pv_i a.2)] [] LAYM σ) a) → (∀ a, e = .inl a → (fun a => pm_J mX12_lies 3 66 lay0 r lay' σ' 63 [none, none, none, some (pv_i a.1), none] [] LAYM σ) a) → (fun a => pm_J mX12_lies 3 66 lay0 r lay' σ' 23 [some (pv_r 0), some (pv_i y1), none, some (pv_i a.1), some (pv_i a.2)] [] LAYM σ) a := by
  intro a e h hc hx
  obtain ⟨z3, z4⟩ := a
  have h : bdX12_lies_23 y1 σ z3 z4 = some e := h
  unfold bdX12_lies_23 at h
  show pm_J mX12_lies 3 66 lay0 r lay' σ' 23 [some (pv_r 0), some (pv_i y1), none, some (pv_i z3), some (pv_i z4)] [] LAYM σ
  refine pr_iload dX12_lies_23 rfl ?_
  refine pr_bipush dX12_lies_25 (by decide) ?_
  refine pr_aload_n dX12_lies_27 rfl ?_
  refine pr_getR dX12_lies_28 lk_X12_86 lm_0 rfl ?_
  refine pr_sipush dX12_lies_31 (by decide) ?_
  refine pr_iald dX12_lies_34 lm_25 (wr_eq (by decide) (by decide)) ⟨by decide, by decide⟩ ?_
  refine pr_imul dX12_lies_35 ?_
  refine pr_icmp_ge (tgt := 63) dX12_lies_36 rfl rfl (by decide) (fun c_4 => ?_) (fun c_4 => ?_)
  · have h := pm_pos c_4 h
    refine pr_weak (L2 := [none, none, none, some (pv_i z3), none]) ⟨Or.inl rfl, Or.inl rfl, Or.inl rfl, Or.inr rfl, Or.inl rfl, trivial⟩ ?_
    exact hx _ (Option.some.inj h).symm
  · have h := pm_ng c_4 h
    refine pr_iload_n dX12_lies_39 rfl ?_
    refine pr_aload_n dX12_lies_40 rfl ?_
    refine pr_iload dX12_lies_41 rfl ?_
    refine pr_iload_n dX12_lies_43 rfl ?_
    obtain ⟨q5, e6, h⟩ := pm_bs h
    refine pr_callV (As := [pv_i z4, pv_i y1]) (S := [pv_i z3]) (t := 0) dX12_lies_44 mk_X12_218 lm_0 (ci := 12) (q := (RX12, TX12, 36)) rfl rfl rfl rfl (by decide) (by decide) (by decide) (Or.inl rfl) (tmX12_isBy e6) ?_
    refine pr_if_eq (tgt := 54) dX12_lies_47 rfl (by decide) (fun c_7 => ?_) (fun c_7 => ?_)
    · have h := pm_pos c_7 h
      refine pr_iconst dX12_lies_54 ?_
      refine pr_iadd dX12_lies_55 ?_
      refine pr_istore_n dX12_lies_56 (by decide) rfl ?_
      refine pr_iinc dX12_lies_57 rfl (by decide) rfl ?_
      refine pr_goto (tgt := 23) dX12_lies_60 (by decide) ?_
      refine pr_weak (L2 := [some (pv_r 0), some (pv_i y1), none, some (pv_i (z3 + 0)), some (pv_i (z4 + 1))]) ⟨Or.inr rfl, Or.inr rfl, Or.inl rfl, Or.inr rfl, Or.inr rfl, trivial⟩ ?_
      exact hc _ (Option.some.inj h).symm
    · have h := pm_ng c_7 h
      refine pr_iconst dX12_lies_50 ?_
      refine pr_goto (tgt := 55) dX12_lies_51 (by decide) ?_
      refine pr_iadd dX12_lies_55 ?_
      refine pr_istore_n dX12_lies_56 (by decide) rfl ?_
      refine pr_iinc dX12_lies_57 rfl (by decide) rfl ?_
      refine pr_goto (tgt := 23) dX12_lies_60 (by decide) ?_
      refine pr_weak (L2 := [some (pv_r 0), some (pv_i y1), none, some (pv_i (z3 + 1)), some (pv_i (z4 + 1))]) ⟨Or.inr rfl, Or.inr rfl, Or.inl rfl, Or.inr rfl, Or.inr rfl, trivial⟩ ?_
      exact hc _ (Option.some.inj h).symm
def fX12_lies (x1 : Int) (σ : pm_M) : Option (Int × pm_M) :=
  (fX12_wrong x1 0 99).bind fun q1 => if (wr q1) = 0 then ((pm_it (fun a => bdX12_lies_23 x1 σ a.1 a.2) pm_fuel (0, 0)).bind fun v8 => some (v8.1, σ)) else ((fX12_refuse q1 σ).bind fun q10 => some (q10.1, q10.2))
set_option maxHeartbeats 4000000 in
set_option maxRecDepth 100000 in
theorem tmX12_lies {x1 : Int} {σ : pm_M} {ρ : Int × pm_M} (h : fX12_lies x1 σ = some ρ) : pm_C mX12_lies 3 66 [pv_r 0, pv_i x1] LAYM σ (some (pv_i ρ.1)) LAYM ρ.2 := by
  refine pm_C.of rfl rfl (by decide) ?_
  show pm_J mX12_lies 3 66 LAYM (some (pv_i ρ.1)) LAYM ρ.2 0 [some (pv_r 0), some (pv_i x1), none, none, none] [] LAYM σ
  unfold fX12_lies at h
  refine pr_iload_n dX12_lies_0 rfl ?_
  refine pr_iconst dX12_lies_1 ?_
  refine pr_bipush dX12_lies_2 (by decide) ?_
  obtain ⟨q1, e2, h⟩ := pm_bs h
  refine pr_callS (av := [pv_i x1, pv_i 0, pv_i 99]) (S := []) dX12_lies_4 mk_X12_99 rfl rfl (by decide) (by decide) (by decide) (Or.inl rfl) (tmX12_wrong e2) ?_
  refine pr_istore_n dX12_lies_7 (by decide) rfl ?_
  refine pr_iload_n dX12_lies_8 rfl ?_
  refine pr_if_eq (tgt := 18) dX12_lies_9 rfl (by decide) (fun c_3 => ?_) (fun c_3 => ?_)
  · have h := pm_pos c_3 h
    refine pr_iconst dX12_lies_18 ?_
    refine pr_istore_n dX12_lies_19 (by decide) rfl ?_
    refine pr_iconst dX12_lies_20 ?_
    refine pr_istore dX12_lies_21 (by decide) rfl ?_
    obtain ⟨v8, e9, h⟩ := pm_bs h
    refine pr_weak (L2 := [some (pv_r 0), some (pv_i x1), none, some (pv_i 0), some (pv_i 0)]) ⟨Or.inr rfl, Or.inr rfl, Or.inl rfl, Or.inr rfl, Or.inr rfl, trivial⟩ ?_
    refine pm_it_J (P := fun a => pm_J mX12_lies 3 66 LAYM (some (pv_i ρ.1)) LAYM ρ.2 23 [some (pv_r 0), some (pv_i x1), none, some (pv_i a.1), some (pv_i a.2)] [] LAYM σ) (Rx := fun a => pm_J mX12_lies 3 66 LAYM (some (pv_i ρ.1)) LAYM ρ.2 63 [none, none, none, some (pv_i a.1), none] [] LAYM σ) (tbX12_lies_23 x1 σ) _ _ _ e9 ?_
    show pm_J mX12_lies 3 66 LAYM (some (pv_i ρ.1)) LAYM ρ.2 63 [none, none, none, some (pv_i v8.1), none] [] LAYM σ
    refine pr_iload_n dX12_lies_63 rfl ?_
    have h := Option.some.inj h
    subst h
    exact pr_iret dX12_lies_64 rfl
  · have h := pm_ng c_3 h
    refine pr_aload_n dX12_lies_12 rfl ?_
    refine pr_iload_n dX12_lies_13 rfl ?_
    obtain ⟨q10, e11, h⟩ := pm_bs h
    refine pr_callV (As := [pv_i q1]) (S := []) (t := 0) dX12_lies_14 mk_X12_103 lm_0 (ci := 12) (q := (RX12, TX12, 36)) rfl rfl rfl rfl (by decide) (by decide) (by decide) (Or.inl rfl) (tmX12_refuse e11) ?_
    have h := Option.some.inj h
    subst h
    exact pr_iret dX12_lies_17 rfl
def fX12_mouldOfSheet (x1 : Int) (σ : pm_M) : Option (Int) :=
  (fX12_post (Int.tdiv (wr x1) 60) 1 σ).bind fun q1 => some ((2 * q1) + (Int.tmod (wr x1) 2))
set_option maxHeartbeats 4000000 in
set_option maxRecDepth 100000 in
theorem tmX12_mouldOfSheet {x1 : Int} {σ : pm_M} {ρ : Int} (h : fX12_mouldOfSheet x1 σ = some ρ) : pm_C mX12_mouldOfSheet 1 22 [pv_r 0, pv_i x1] LAYM σ (some (pv_i ρ)) LAYM σ := by
  refine pm_C.of rfl rfl (by decide) ?_
  show pm_J mX12_mouldOfSheet 1 22 LAYM (some (pv_i ρ)) LAYM σ 0 [some (pv_r 0), some (pv_i x1)] [] LAYM σ
  unfold fX12_mouldOfSheet at h
  refine pr_iconst dX12_mouldOfSheet_0 ?_
  refine pr_aload_n dX12_mouldOfSheet_1 rfl ?_
  refine pr_iload_n dX12_mouldOfSheet_2 rfl ?_
  refine pr_bipush dX12_mouldOfSheet_3 (by decide) ?_
  refine pr_idiv dX12_mouldOfSheet_5 rfl (wr_eq (by decide) (by decide)) (by decide) ?_
  refine pr_iconst dX12_mouldOfSheet_6 ?_
  obtain ⟨q1, e2, h⟩ := pm_bs h
  refine pr_callV (As := [pv_i (Int.tdiv (wr x1) 60), pv_i 1]) (S := [pv_i 2]) (t := 0) dX12_mouldOfSheet_7 mk_X12_138 lm_0 (ci := 12) (q := (RX12, TX12, 36)) rfl rfl rfl rfl (by decide) (by decide) (by decide) (Or.inl rfl) (tmX12_post e2) ?_
  refine pr_imul dX12_mouldOfSheet_10 ?_
  refine pr_iload_n dX12_mouldOfSheet_11 rfl ?_
  refine pr_iconst dX12_mouldOfSheet_12 ?_
  refine pr_irem dX12_mouldOfSheet_13 rfl (wr_eq (by decide) (by decide)) (by decide) ?_
  refine pr_iadd dX12_mouldOfSheet_14 ?_
  have h := Option.some.inj h
  subst h
  exact pr_iret dX12_mouldOfSheet_15 rfl
def bdX12_nearest_44 (y1 : Int) (y2 : Int) (y3 : Int) (y4 : Int) (σ : pm_M) (z5 : Int) (z6 : Int) : Option ((Int × Int) ⊕ (Int × Int)) :=
  if 6 ≤ (wr z6) then (some (.inl (z5, z6))) else ((fX12_far y4 z6 σ).bind fun q6 => some (.inr ((z5 + q6), (z6 + 1))))
set_option maxHeartbeats 4000000 in
set_option maxRecDepth 100000 in
theorem tbX12_nearest_44 {lay0 lay' : List pm_S} {r : Option pm_V} {σ' : pm_M} (y1 : Int) (y2 : Int) (y3 : Int) (y4 : Int) (σ : pm_M) : ∀ (a : Int × Int) (e : (Int × Int) ⊕ (Int × Int)), (fun a => bdX12_nearest_44 y1 y2 y3 y4 σ a.1 a.2) a = some e → (∀ a, e = .inr a → (fun a => pm_J mX12_nearest 2 43 lay0 r lay' σ' 44 [some (pv_r 0), some (pv_i y1), some (pv_i y2), some (pv_i y3), some (pv_i y4), some (pv_i a.1), some (pv_i a.2)] [] LAYM σ) a) → (∀ a, e = .inl a → (fun a => pm_J mX12_nearest 2 43 lay0 r lay' σ' 70 [some (pv_r 0), some (pv_i y1), some (pv_i y2), some (pv_i y3), some (pv_i y4), some (pv_i a.1), none] [] LAYM σ) a) → (fun a => pm_J mX12_nearest 2 43 lay0 r lay' σ' 44 [some (pv_r 0), some (pv_i y1), some (pv_i y2), some (pv_i y3), some (pv_i y4), some (pv_i a.1), some (pv_i a.2)] [] LAYM σ) a := by
  intro a e h hc hx
  obtain ⟨z5, z6⟩ := a
  have h : bdX12_nearest_44 y1 y2 y3 y4 σ z5 z6 = some e := h
  unfold bdX12_nearest_44 at h
  show pm_J mX12_nearest 2 43 lay0 r lay' σ' 44 [some (pv_r 0), some (pv_i y1), some (pv_i y2), some (pv_i y3), some (pv_i y4), some (pv_i z5), some (pv_i z6)] [] LAYM σ
  refine pr_iload dX12_nearest_44 rfl ?_
  refine pr_bipush dX12_nearest_46 (by decide) ?_
  refine pr_icmp_ge (tgt := 70) dX12_nearest_48 rfl (wr_eq (by decide) (by decide)) (by decide) (fun c_5 => ?_) (fun c_5 => ?_)
  · have h := pm_pos c_5 h
    refine pr_weak (L2 := [some (pv_r 0), some (pv_i y1), some (pv_i y2), some (pv_i y3), some (pv_i y4), some (pv_i z5), none]) ⟨Or.inr rfl, Or.inr rfl, Or.inr rfl, Or.inr rfl, Or.inr rfl, Or.inr rfl, Or.inl rfl, trivial⟩ ?_
    exact hx _ (Option.some.inj h).symm
  · have h := pm_ng c_5 h
    refine pr_iload dX12_nearest_51 rfl ?_
    refine pr_aload_n dX12_nearest_53 rfl ?_
    refine pr_iload dX12_nearest_54 rfl ?_
    refine pr_iload dX12_nearest_56 rfl ?_
    obtain ⟨q6, e7, h⟩ := pm_bs h
    refine pr_callV (As := [pv_i y4, pv_i z6]) (S := [pv_i z5]) (t := 0) dX12_nearest_58 mk_X12_215 lm_0 (ci := 12) (q := (RX12, TX12, 36)) rfl rfl rfl rfl (by decide) (by decide) (by decide) (Or.inl rfl) (tmX12_far e7) ?_
    refine pr_iadd dX12_nearest_61 ?_
    refine pr_istore dX12_nearest_62 (by decide) rfl ?_
    refine pr_iinc dX12_nearest_64 rfl (by decide) rfl ?_
    refine pr_goto (tgt := 44) dX12_nearest_67 (by decide) ?_
    refine pr_weak (L2 := [some (pv_r 0), some (pv_i y1), some (pv_i y2), some (pv_i y3), some (pv_i y4), some (pv_i (z5 + q6)), some (pv_i (z6 + 1))]) ⟨Or.inr rfl, Or.inr rfl, Or.inr rfl, Or.inr rfl, Or.inr rfl, Or.inr rfl, Or.inr rfl, trivial⟩ ?_
    exact hc _ (Option.some.inj h).symm
def bdX12_nearest_22 (y1 : Int) (σ : pm_M) (z2 : Int) (z3 : Int) (z4 : Int) : Option ((Int × Int × Int) ⊕ (Int × Int × Int)) :=
  if (wr (60 * (σ 25 (Int.toNat 752)))) ≤ (wr z4) then (some (.inl (z2, z3, z4))) else ((pm_it (fun a => bdX12_nearest_44 y1 z2 z3 z4 σ a.1 a.2) pm_fuel (0, 0)).bind fun v8 => if (wr z2) < 0 then (some (.inr (z4, v8.1, (z4 + 1)))) else (if (wr v8.1) < (wr z3) then (some (.inr (z4, v8.1, (z4 + 1)))) else (some (.inr (z2, z3, (z4 + 1))))))
set_option maxHeartbeats 4000000 in
set_option maxRecDepth 100000 in
theorem tbX12_nearest_22 {lay0 lay' : List pm_S} {r : Option pm_V} {σ' : pm_M} (y1 : Int) (σ : pm_M) : ∀ (a : Int × Int × Int) (e : (Int × Int × Int) ⊕ (Int × Int × Int)), (fun a => bdX12_nearest_22 y1 σ a.1 a.2.1 a.2.2) a = some e → (∀ a, e = .inr a → (fun a => pm_J mX12_nearest 2 43 lay0 r lay' σ' 22 [some (pv_r 0), some (pv_i y1), some (pv_i a.1), some (pv_i a.2.1), some (pv_i a.2.2), none, none] [] LAYM σ) a) → (∀ a, e = .inl a → (fun a => pm_J mX12_nearest 2 43 lay0 r lay' σ' 95 [some (pv_r 0), some (pv_i y1), some (pv_i a.1), some (pv_i a.2.1), none, none, none] [] LAYM σ) a) → (fun a => pm_J mX12_nearest 2 43 lay0 r lay' σ' 22 [some (pv_r 0), some (pv_i y1), some (pv_i a.1), some (pv_i a.2.1), some (pv_i a.2.2), none, none] [] LAYM σ) a := by
  intro a e h hc hx
  obtain ⟨z2, z3, z4⟩ := a
  have h : bdX12_nearest_22 y1 σ z2 z3 z4 = some e := h
  unfold bdX12_nearest_22 at h
  show pm_J mX12_nearest 2 43 lay0 r lay' σ' 22 [some (pv_r 0), some (pv_i y1), some (pv_i z2), some (pv_i z3), some (pv_i z4), none, none] [] LAYM σ
  refine pr_iload dX12_nearest_22 rfl ?_
  refine pr_bipush dX12_nearest_24 (by decide) ?_
  refine pr_aload_n dX12_nearest_26 rfl ?_
  refine pr_getR dX12_nearest_27 lk_X12_86 lm_0 rfl ?_
  refine pr_sipush dX12_nearest_30 (by decide) ?_
  refine pr_iald dX12_nearest_33 lm_25 (wr_eq (by decide) (by decide)) ⟨by decide, by decide⟩ ?_
  refine pr_imul dX12_nearest_34 ?_
  refine pr_icmp_ge (tgt := 95) dX12_nearest_35 rfl rfl (by decide) (fun c_4 => ?_) (fun c_4 => ?_)
  · have h := pm_pos c_4 h
    refine pr_weak (L2 := [some (pv_r 0), some (pv_i y1), some (pv_i z2), some (pv_i z3), none, none, none]) ⟨Or.inr rfl, Or.inr rfl, Or.inr rfl, Or.inr rfl, Or.inl rfl, Or.inl rfl, Or.inl rfl, trivial⟩ ?_
    exact hx _ (Option.some.inj h).symm
  · have h := pm_ng c_4 h
    refine pr_iconst dX12_nearest_38 ?_
    refine pr_istore dX12_nearest_39 (by decide) rfl ?_
    refine pr_iconst dX12_nearest_41 ?_
    refine pr_istore dX12_nearest_42 (by decide) rfl ?_
    obtain ⟨v8, e9, h⟩ := pm_bs h
    refine pr_weak (L2 := [some (pv_r 0), some (pv_i y1), some (pv_i z2), some (pv_i z3), some (pv_i z4), some (pv_i 0), some (pv_i 0)]) ⟨Or.inr rfl, Or.inr rfl, Or.inr rfl, Or.inr rfl, Or.inr rfl, Or.inr rfl, Or.inr rfl, trivial⟩ ?_
    refine pm_it_J (P := fun a => pm_J mX12_nearest 2 43 lay0 r lay' σ' 44 [some (pv_r 0), some (pv_i y1), some (pv_i z2), some (pv_i z3), some (pv_i z4), some (pv_i a.1), some (pv_i a.2)] [] LAYM σ) (Rx := fun a => pm_J mX12_nearest 2 43 lay0 r lay' σ' 70 [some (pv_r 0), some (pv_i y1), some (pv_i z2), some (pv_i z3), some (pv_i z4), some (pv_i a.1), none] [] LAYM σ) (tbX12_nearest_44 y1 z2 z3 z4 σ) _ _ _ e9 ?_
    show pm_J mX12_nearest 2 43 lay0 r lay' σ' 70 [some (pv_r 0), some (pv_i y1), some (pv_i z2), some (pv_i z3), some (pv_i z4), some (pv_i v8.1), none] [] LAYM σ
    refine pr_iload_n dX12_nearest_70 rfl ?_
    refine pr_if_lt (tgt := 83) dX12_nearest_71 rfl (by decide) (fun c_10 => ?_) (fun c_10 => ?_)
    · have h := pm_pos c_10 h
      refine pr_iload dX12_nearest_83 rfl ?_
      refine pr_istore_n dX12_nearest_85 (by decide) rfl ?_
      refine pr_iload dX12_nearest_86 rfl ?_
      refine pr_istore_n dX12_nearest_88 (by decide) rfl ?_
      refine pr_iinc dX12_nearest_89 rfl (by decide) rfl ?_
      refine pr_goto (tgt := 22) dX12_nearest_92 (by decide) ?_
      refine pr_weak (L2 := [some (pv_r 0), some (pv_i y1), some (pv_i z4), some (pv_i v8.1), some (pv_i (z4 + 1)), none, none]) ⟨Or.inr rfl, Or.inr rfl, Or.inr rfl, Or.inr rfl, Or.inr rfl, Or.inl rfl, Or.inl rfl, trivial⟩ ?_
      exact hc _ (Option.some.inj h).symm
    · have h := pm_ng c_10 h
      refine pr_iload dX12_nearest_74 rfl ?_
      refine pr_iload_n dX12_nearest_76 rfl ?_
      refine pr_icmp_lt (tgt := 83) dX12_nearest_77 rfl rfl (by decide) (fun c_11 => ?_) (fun c_11 => ?_)
      · have h := pm_pos c_11 h
        refine pr_iload dX12_nearest_83 rfl ?_
        refine pr_istore_n dX12_nearest_85 (by decide) rfl ?_
        refine pr_iload dX12_nearest_86 rfl ?_
        refine pr_istore_n dX12_nearest_88 (by decide) rfl ?_
        refine pr_iinc dX12_nearest_89 rfl (by decide) rfl ?_
        refine pr_goto (tgt := 22) dX12_nearest_92 (by decide) ?_
        refine pr_weak (L2 := [some (pv_r 0), some (pv_i y1), some (pv_i z4), some (pv_i v8.1), some (pv_i (z4 + 1)), none, none]) ⟨Or.inr rfl, Or.inr rfl, Or.inr rfl, Or.inr rfl, Or.inr rfl, Or.inl rfl, Or.inl rfl, trivial⟩ ?_
        exact hc _ (Option.some.inj h).symm
      · have h := pm_ng c_11 h
        refine pr_goto (tgt := 89) dX12_nearest_80 (by decide) ?_
        refine pr_iinc dX12_nearest_89 rfl (by decide) rfl ?_
        refine pr_goto (tgt := 22) dX12_nearest_92 (by decide) ?_
        refine pr_weak (L2 := [some (pv_r 0), some (pv_i y1), some (pv_i z2), some (pv_i z3), some (pv_i (z4 + 1)), none, none]) ⟨Or.inr rfl, Or.inr rfl, Or.inr rfl, Or.inr rfl, Or.inr rfl, Or.inl rfl, Or.inl rfl, trivial⟩ ?_
        exact hc _ (Option.some.inj h).symm
def fX12_nearest (x1 : Int) (σ : pm_M) : Option (Int × pm_M) :=
  (fX12_isIn x1 5).bind fun q1 => if (wr q1) = 0 then ((fX12_refuse (-2) σ).bind fun q20 => some (q20.1, q20.2)) else ((pm_it (fun a => bdX12_nearest_22 x1 σ a.1 a.2.1 a.2.2) pm_fuel ((-1), 0, 0)).bind fun v12 => if 0 ≤ (wr v12.1) then (if (wr x1) = 0 then (some ((Int.tdiv (wr v12.1) 60), σ)) else (if (wr x1) = 1 then (some ((Int.tmod (wr v12.1) 60), σ)) else (if (wr x1) = 2 then ((fX12_mouldOfSheet v12.1 σ).bind fun q18 => some (q18, σ)) else (if (wr x1) = 3 then (some (v12.2.1, σ)) else ((fX12_post (Int.tdiv (wr v12.1) 60) 3 σ).bind fun q15 => some (q15, σ)))))) else (some ((-9), σ)))
set_option maxHeartbeats 4000000 in
set_option maxRecDepth 100000 in
theorem tmX12_nearest {x1 : Int} {σ : pm_M} {ρ : Int × pm_M} (h : fX12_nearest x1 σ = some ρ) : pm_C mX12_nearest 2 43 [pv_r 0, pv_i x1] LAYM σ (some (pv_i ρ.1)) LAYM ρ.2 := by
  refine pm_C.of rfl rfl (by decide) ?_
  show pm_J mX12_nearest 2 43 LAYM (some (pv_i ρ.1)) LAYM ρ.2 0 [some (pv_r 0), some (pv_i x1), none, none, none, none, none] [] LAYM σ
  unfold fX12_nearest at h
  refine pr_iload_n dX12_nearest_0 rfl ?_
  refine pr_iconst dX12_nearest_1 ?_
  obtain ⟨q1, e2, h⟩ := pm_bs h
  refine pr_callS (av := [pv_i x1, pv_i 5]) (S := []) dX12_nearest_2 mk_X12_95 rfl rfl (by decide) (by decide) (by decide) (Or.inl rfl) (tmX12_isIn e2) ?_
  refine pr_if_ne (tgt := 15) dX12_nearest_5 rfl (by decide) (fun c_3 => ?_) (fun c_3 => ?_)
  · have h := pm_ng c_3 h
    refine pr_iconst dX12_nearest_15 ?_
    refine pr_istore_n dX12_nearest_16 (by decide) rfl ?_
    refine pr_iconst dX12_nearest_17 ?_
    refine pr_istore_n dX12_nearest_18 (by decide) rfl ?_
    refine pr_iconst dX12_nearest_19 ?_
    refine pr_istore dX12_nearest_20 (by decide) rfl ?_
    obtain ⟨v12, e13, h⟩ := pm_bs h
    refine pr_weak (L2 := [some (pv_r 0), some (pv_i x1), some (pv_i (-1)), some (pv_i 0), some (pv_i 0), none, none]) ⟨Or.inr rfl, Or.inr rfl, Or.inr rfl, Or.inr rfl, Or.inr rfl, Or.inl rfl, Or.inl rfl, trivial⟩ ?_
    refine pm_it_J (P := fun a => pm_J mX12_nearest 2 43 LAYM (some (pv_i ρ.1)) LAYM ρ.2 22 [some (pv_r 0), some (pv_i x1), some (pv_i a.1), some (pv_i a.2.1), some (pv_i a.2.2), none, none] [] LAYM σ) (Rx := fun a => pm_J mX12_nearest 2 43 LAYM (some (pv_i ρ.1)) LAYM ρ.2 95 [some (pv_r 0), some (pv_i x1), some (pv_i a.1), some (pv_i a.2.1), none, none, none] [] LAYM σ) (tbX12_nearest_22 x1 σ) _ _ _ e13 ?_
    show pm_J mX12_nearest 2 43 LAYM (some (pv_i ρ.1)) LAYM ρ.2 95 [some (pv_r 0), some (pv_i x1), some (pv_i v12.1), some (pv_i v12.2.1), none, none, none] [] LAYM σ
    refine pr_iload_n dX12_nearest_95 rfl ?_
    refine pr_if_ge (tgt := 102) dX12_nearest_96 rfl (by decide) (fun c_14 => ?_) (fun c_14 => ?_)
    · have h := pm_pos c_14 h
      refine pr_iload_n dX12_nearest_102 rfl ?_
      by_cases c_17_0 : (wr x1) = 0
      · have h := pm_pos c_17_0 h
        refine pr_tsIn (j := 0) (tgt := 132) dX12_nearest_103 rfl (c_17_0.trans (by decide)) (by decide) rfl (by decide) ?_
        refine pr_iload_n dX12_nearest_132 rfl ?_
        refine pr_bipush dX12_nearest_133 (by decide) ?_
        refine pr_idiv dX12_nearest_135 rfl (wr_eq (by decide) (by decide)) (by decide) ?_
        have h := Option.some.inj h
        subst h
        exact pr_iret dX12_nearest_136 rfl
      · have h := pm_ng c_17_0 h
        by_cases c_17_1 : (wr x1) = 1
        · have h := pm_pos c_17_1 h
          refine pr_tsIn (j := 1) (tgt := 137) dX12_nearest_103 rfl (c_17_1.trans (by decide)) (by decide) rfl (by decide) ?_
          refine pr_iload_n dX12_nearest_137 rfl ?_
          refine pr_bipush dX12_nearest_138 (by decide) ?_
          refine pr_irem dX12_nearest_140 rfl (wr_eq (by decide) (by decide)) (by decide) ?_
          have h := Option.some.inj h
          subst h
          exact pr_iret dX12_nearest_141 rfl
        · have h := pm_ng c_17_1 h
          by_cases c_17_2 : (wr x1) = 2
          · have h := pm_pos c_17_2 h
            refine pr_tsIn (j := 2) (tgt := 142) dX12_nearest_103 rfl (c_17_2.trans (by decide)) (by decide) rfl (by decide) ?_
            refine pr_aload_n dX12_nearest_142 rfl ?_
            refine pr_iload_n dX12_nearest_143 rfl ?_
            obtain ⟨q18, e19, h⟩ := pm_bs h
            refine pr_callV (As := [pv_i v12.1]) (S := []) (t := 0) dX12_nearest_144 mk_X12_221 lm_0 (ci := 12) (q := (RX12, TX12, 36)) rfl rfl rfl rfl (by decide) (by decide) (by decide) (Or.inl rfl) (tmX12_mouldOfSheet e19) ?_
            have h := Option.some.inj h
            subst h
            exact pr_iret dX12_nearest_147 rfl
          · have h := pm_ng c_17_2 h
            by_cases c_17_3 : (wr x1) = 3
            · have h := pm_pos c_17_3 h
              refine pr_tsIn (j := 3) (tgt := 148) dX12_nearest_103 rfl (c_17_3.trans (by decide)) (by decide) rfl (by decide) ?_
              refine pr_iload_n dX12_nearest_148 rfl ?_
              have h := Option.some.inj h
              subst h
              exact pr_iret dX12_nearest_149 rfl
            · have h := pm_ng c_17_3 h
              refine pr_tsOut (tgt := 150) dX12_nearest_103 rfl (by omega) (by decide) ?_
              refine pr_aload_n dX12_nearest_150 rfl ?_
              refine pr_iload_n dX12_nearest_151 rfl ?_
              refine pr_bipush dX12_nearest_152 (by decide) ?_
              refine pr_idiv dX12_nearest_154 rfl (wr_eq (by decide) (by decide)) (by decide) ?_
              refine pr_iconst dX12_nearest_155 ?_
              obtain ⟨q15, e16, h⟩ := pm_bs h
              refine pr_callV (As := [pv_i (Int.tdiv (wr v12.1) 60), pv_i 3]) (S := []) (t := 0) dX12_nearest_156 mk_X12_138 lm_0 (ci := 12) (q := (RX12, TX12, 36)) rfl rfl rfl rfl (by decide) (by decide) (by decide) (Or.inl rfl) (tmX12_post e16) ?_
              have h := Option.some.inj h
              subst h
              exact pr_iret dX12_nearest_159 rfl
    · have h := pm_ng c_14 h
      refine pr_bipush dX12_nearest_99 (by decide) ?_
      have h := Option.some.inj h
      subst h
      exact pr_iret dX12_nearest_101 rfl
  · have h := pm_pos c_3 h
    refine pr_aload_n dX12_nearest_8 rfl ?_
    refine pr_bipush dX12_nearest_9 (by decide) ?_
    obtain ⟨q20, e21, h⟩ := pm_bs h
    refine pr_callV (As := [pv_i (-2)]) (S := []) (t := 0) dX12_nearest_11 mk_X12_103 lm_0 (ci := 12) (q := (RX12, TX12, 36)) rfl rfl rfl rfl (by decide) (by decide) (by decide) (Or.inl rfl) (tmX12_refuse e21) ?_
    have h := Option.some.inj h
    subst h
    exact pr_iret dX12_nearest_14 rfl
def bdX12_span_45 (y1 : Int) (y2 : Int) (y3 : Int) (σ : pm_M) (z5 : Int) (z6 : Int) : Option ((Int × Int) ⊕ (Int × Int)) :=
  if (wr (60 * (σ 25 (Int.toNat 752)))) ≤ (wr z6) then (some (.inl (z5, z6))) else ((fX12_mouldOfSheet z6 σ).bind fun q6 => if (wr q6) = (wr y1) then ((fX12_isBy z6 y2 σ).bind fun q9 => if (wr q9) = 0 then (some (.inr (z5, (z6 + 1)))) else ((fX12_post (Int.tdiv (wr z6) 60) 3 σ).bind fun q12 => if (wr z5) < 0 then (some (.inr (q12, (z6 + 1)))) else (if (wr y3) = 0 then (if (wr z5) ≤ (wr q12) then (some (.inr (z5, (z6 + 1)))) else (some (.inr (q12, (z6 + 1))))) else (if (wr q12) ≤ (wr z5) then (some (.inr (z5, (z6 + 1)))) else (some (.inr (q12, (z6 + 1)))))))) else (some (.inr (z5, (z6 + 1)))))
set_option maxHeartbeats 4000000 in
set_option maxRecDepth 100000 in
theorem tbX12_span_45 {lay0 lay' : List pm_S} {r : Option pm_V} {σ' : pm_M} (y1 : Int) (y2 : Int) (y3 : Int) (σ : pm_M) : ∀ (a : Int × Int) (e : (Int × Int) ⊕ (Int × Int)), (fun a => bdX12_span_45 y1 y2 y3 σ a.1 a.2) a = some e → (∀ a, e = .inr a → (fun a => pm_J mX12_span 3 66 lay0 r lay' σ' 45 [some (pv_r 0), some (pv_i y1), some (pv_i y2), some (pv_i y3), none, some (pv_i a.1), some (pv_i a.2), none] [] LAYM σ) a) → (∀ a, e = .inl a → (fun a => pm_J mX12_span 3 66 lay0 r lay' σ' 132 [none, none, none, none, none, some (pv_i a.1), none, none] [] LAYM σ) a) → (fun a => pm_J mX12_span 3 66 lay0 r lay' σ' 45 [some (pv_r 0), some (pv_i y1), some (pv_i y2), some (pv_i y3), none, some (pv_i a.1), some (pv_i a.2), none] [] LAYM σ) a := by
  intro a e h hc hx
  obtain ⟨z5, z6⟩ := a
  have h : bdX12_span_45 y1 y2 y3 σ z5 z6 = some e := h
  unfold bdX12_span_45 at h
  show pm_J mX12_span 3 66 lay0 r lay' σ' 45 [some (pv_r 0), some (pv_i y1), some (pv_i y2), some (pv_i y3), none, some (pv_i z5), some (pv_i z6), none] [] LAYM σ
  refine pr_iload dX12_span_45 rfl ?_
  refine pr_bipush dX12_span_47 (by decide) ?_
  refine pr_aload_n dX12_span_49 rfl ?_
  refine pr_getR dX12_span_50 lk_X12_86 lm_0 rfl ?_
  refine pr_sipush dX12_span_53 (by decide) ?_
  refine pr_iald dX12_span_56 lm_25 (wr_eq (by decide) (by decide)) ⟨by decide, by decide⟩ ?_
  refine pr_imul dX12_span_57 ?_
  refine pr_icmp_ge (tgt := 132) dX12_span_58 rfl rfl (by decide) (fun c_5 => ?_) (fun c_5 => ?_)
  · have h := pm_pos c_5 h
    refine pr_weak (L2 := [none, none, none, none, none, some (pv_i z5), none, none]) ⟨Or.inl rfl, Or.inl rfl, Or.inl rfl, Or.inl rfl, Or.inl rfl, Or.inr rfl, Or.inl rfl, Or.inl rfl, trivial⟩ ?_
    exact hx _ (Option.some.inj h).symm
  · have h := pm_ng c_5 h
    refine pr_aload_n dX12_span_61 rfl ?_
    refine pr_iload dX12_span_62 rfl ?_
    obtain ⟨q6, e7, h⟩ := pm_bs h
    refine pr_callV (As := [pv_i z6]) (S := []) (t := 0) dX12_span_64 mk_X12_221 lm_0 (ci := 12) (q := (RX12, TX12, 36)) rfl rfl rfl rfl (by decide) (by decide) (by decide) (Or.inl rfl) (tmX12_mouldOfSheet e7) ?_
    refine pr_iload_n dX12_span_67 rfl ?_
    refine pr_icmp_ne (tgt := 126) dX12_span_68 rfl rfl (by decide) (fun c_8 => ?_) (fun c_8 => ?_)
    · have h := pm_ng c_8 h
      refine pr_iinc dX12_span_126 rfl (by decide) rfl ?_
      refine pr_goto (tgt := 45) dX12_span_129 (by decide) ?_
      refine pr_weak (L2 := [some (pv_r 0), some (pv_i y1), some (pv_i y2), some (pv_i y3), none, some (pv_i z5), some (pv_i (z6 + 1)), none]) ⟨Or.inr rfl, Or.inr rfl, Or.inr rfl, Or.inr rfl, Or.inl rfl, Or.inr rfl, Or.inr rfl, Or.inl rfl, trivial⟩ ?_
      exact hc _ (Option.some.inj h).symm
    · have h := pm_pos c_8 h
      refine pr_aload_n dX12_span_71 rfl ?_
      refine pr_iload dX12_span_72 rfl ?_
      refine pr_iload_n dX12_span_74 rfl ?_
      obtain ⟨q9, e10, h⟩ := pm_bs h
      refine pr_callV (As := [pv_i z6, pv_i y2]) (S := []) (t := 0) dX12_span_75 mk_X12_218 lm_0 (ci := 12) (q := (RX12, TX12, 36)) rfl rfl rfl rfl (by decide) (by decide) (by decide) (Or.inl rfl) (tmX12_isBy e10) ?_
      refine pr_if_ne (tgt := 84) dX12_span_78 rfl (by decide) (fun c_11 => ?_) (fun c_11 => ?_)
      · have h := pm_ng c_11 h
        refine pr_aload_n dX12_span_84 rfl ?_
        refine pr_iload dX12_span_85 rfl ?_
        refine pr_bipush dX12_span_87 (by decide) ?_
        refine pr_idiv dX12_span_89 rfl (wr_eq (by decide) (by decide)) (by decide) ?_
        refine pr_iconst dX12_span_90 ?_
        obtain ⟨q12, e13, h⟩ := pm_bs h
        refine pr_callV (As := [pv_i (Int.tdiv (wr z6) 60), pv_i 3]) (S := []) (t := 0) dX12_span_91 mk_X12_138 lm_0 (ci := 12) (q := (RX12, TX12, 36)) rfl rfl rfl rfl (by decide) (by decide) (by decide) (Or.inl rfl) (tmX12_post e13) ?_
        refine pr_istore dX12_span_94 (by decide) rfl ?_
        refine pr_iload dX12_span_96 rfl ?_
        refine pr_if_lt (tgt := 122) dX12_span_98 rfl (by decide) (fun c_14 => ?_) (fun c_14 => ?_)
        · have h := pm_pos c_14 h
          refine pr_iload dX12_span_122 rfl ?_
          refine pr_istore dX12_span_124 (by decide) rfl ?_
          refine pr_iinc dX12_span_126 rfl (by decide) rfl ?_
          refine pr_goto (tgt := 45) dX12_span_129 (by decide) ?_
          refine pr_weak (L2 := [some (pv_r 0), some (pv_i y1), some (pv_i y2), some (pv_i y3), none, some (pv_i q12), some (pv_i (z6 + 1)), none]) ⟨Or.inr rfl, Or.inr rfl, Or.inr rfl, Or.inr rfl, Or.inl rfl, Or.inr rfl, Or.inr rfl, Or.inl rfl, trivial⟩ ?_
          exact hc _ (Option.some.inj h).symm
        · have h := pm_ng c_14 h
          refine pr_iload_n dX12_span_101 rfl ?_
          refine pr_if_eq (tgt := 115) dX12_span_102 rfl (by decide) (fun c_15 => ?_) (fun c_15 => ?_)
          · have h := pm_pos c_15 h
            refine pr_iload dX12_span_115 rfl ?_
            refine pr_iload dX12_span_117 rfl ?_
            refine pr_icmp_ge (tgt := 126) dX12_span_119 rfl rfl (by decide) (fun c_16 => ?_) (fun c_16 => ?_)
            · have h := pm_pos c_16 h
              refine pr_iinc dX12_span_126 rfl (by decide) rfl ?_
              refine pr_goto (tgt := 45) dX12_span_129 (by decide) ?_
              refine pr_weak (L2 := [some (pv_r 0), some (pv_i y1), some (pv_i y2), some (pv_i y3), none, some (pv_i z5), some (pv_i (z6 + 1)), none]) ⟨Or.inr rfl, Or.inr rfl, Or.inr rfl, Or.inr rfl, Or.inl rfl, Or.inr rfl, Or.inr rfl, Or.inl rfl, trivial⟩ ?_
              exact hc _ (Option.some.inj h).symm
            · have h := pm_ng c_16 h
              refine pr_iload dX12_span_122 rfl ?_
              refine pr_istore dX12_span_124 (by decide) rfl ?_
              refine pr_iinc dX12_span_126 rfl (by decide) rfl ?_
              refine pr_goto (tgt := 45) dX12_span_129 (by decide) ?_
              refine pr_weak (L2 := [some (pv_r 0), some (pv_i y1), some (pv_i y2), some (pv_i y3), none, some (pv_i q12), some (pv_i (z6 + 1)), none]) ⟨Or.inr rfl, Or.inr rfl, Or.inr rfl, Or.inr rfl, Or.inl rfl, Or.inr rfl, Or.inr rfl, Or.inl rfl, trivial⟩ ?_
              exact hc _ (Option.some.inj h).symm
          · have h := pm_ng c_15 h
            refine pr_iload dX12_span_105 rfl ?_
            refine pr_iload dX12_span_107 rfl ?_
            refine pr_icmp_le (tgt := 126) dX12_span_109 rfl rfl (by decide) (fun c_17 => ?_) (fun c_17 => ?_)
            · have h := pm_pos c_17 h
              refine pr_iinc dX12_span_126 rfl (by decide) rfl ?_
              refine pr_goto (tgt := 45) dX12_span_129 (by decide) ?_
              refine pr_weak (L2 := [some (pv_r 0), some (pv_i y1), some (pv_i y2), some (pv_i y3), none, some (pv_i z5), some (pv_i (z6 + 1)), none]) ⟨Or.inr rfl, Or.inr rfl, Or.inr rfl, Or.inr rfl, Or.inl rfl, Or.inr rfl, Or.inr rfl, Or.inl rfl, trivial⟩ ?_
              exact hc _ (Option.some.inj h).symm
            · have h := pm_ng c_17 h
              refine pr_goto (tgt := 122) dX12_span_112 (by decide) ?_
              refine pr_iload dX12_span_122 rfl ?_
              refine pr_istore dX12_span_124 (by decide) rfl ?_
              refine pr_iinc dX12_span_126 rfl (by decide) rfl ?_
              refine pr_goto (tgt := 45) dX12_span_129 (by decide) ?_
              refine pr_weak (L2 := [some (pv_r 0), some (pv_i y1), some (pv_i y2), some (pv_i y3), none, some (pv_i q12), some (pv_i (z6 + 1)), none]) ⟨Or.inr rfl, Or.inr rfl, Or.inr rfl, Or.inr rfl, Or.inl rfl, Or.inr rfl, Or.inr rfl, Or.inl rfl, trivial⟩ ?_
              exact hc _ (Option.some.inj h).symm
      · have h := pm_pos c_11 h
        refine pr_goto (tgt := 126) dX12_span_81 (by decide) ?_
        refine pr_iinc dX12_span_126 rfl (by decide) rfl ?_
        refine pr_goto (tgt := 45) dX12_span_129 (by decide) ?_
        refine pr_weak (L2 := [some (pv_r 0), some (pv_i y1), some (pv_i y2), some (pv_i y3), none, some (pv_i z5), some (pv_i (z6 + 1)), none]) ⟨Or.inr rfl, Or.inr rfl, Or.inr rfl, Or.inr rfl, Or.inl rfl, Or.inr rfl, Or.inr rfl, Or.inl rfl, trivial⟩ ?_
        exact hc _ (Option.some.inj h).symm
def jnX12_span_24 (w1 : Int) (w2 : Int) (w3 : Int) (u0 : Int) (σ : pm_M) : Option (Int × pm_M) :=
  if (wr u0) = 0 then ((pm_it (fun a => bdX12_span_45 w1 w2 w3 σ a.1 a.2) pm_fuel ((-9), 0)).bind fun v18 => some (v18.1, σ)) else ((fX12_refuse u0 σ).bind fun q20 => some (q20.1, q20.2))
set_option maxHeartbeats 4000000 in
set_option maxRecDepth 100000 in
theorem tjX12_span_24 {lay0 : List pm_S} {w1 : Int} {w2 : Int} {w3 : Int} {u0 : Int} {σ : pm_M} {ρ : Int × pm_M} (h : jnX12_span_24 w1 w2 w3 u0 σ = some ρ) : pm_J mX12_span 3 66 lay0 (some (pv_i ρ.1)) LAYM ρ.2 24 [some (pv_r 0), some (pv_i w1), some (pv_i w2), some (pv_i w3), none, none, none, none] [pv_i u0] LAYM σ := by
  unfold jnX12_span_24 at h
  refine pr_istore dX12_span_24 (by decide) rfl ?_
  refine pr_iload dX12_span_26 rfl ?_
  refine pr_if_eq (tgt := 38) dX12_span_28 rfl (by decide) (fun c_4 => ?_) (fun c_4 => ?_)
  · have h := pm_pos c_4 h
    refine pr_bipush dX12_span_38 (by decide) ?_
    refine pr_istore dX12_span_40 (by decide) rfl ?_
    refine pr_iconst dX12_span_42 ?_
    refine pr_istore dX12_span_43 (by decide) rfl ?_
    obtain ⟨v18, e19, h⟩ := pm_bs h
    refine pr_weak (L2 := [some (pv_r 0), some (pv_i w1), some (pv_i w2), some (pv_i w3), none, some (pv_i (-9)), some (pv_i 0), none]) ⟨Or.inr rfl, Or.inr rfl, Or.inr rfl, Or.inr rfl, Or.inl rfl, Or.inr rfl, Or.inr rfl, Or.inl rfl, trivial⟩ ?_
    refine pm_it_J (P := fun a => pm_J mX12_span 3 66 lay0 (some (pv_i ρ.1)) LAYM ρ.2 45 [some (pv_r 0), some (pv_i w1), some (pv_i w2), some (pv_i w3), none, some (pv_i a.1), some (pv_i a.2), none] [] LAYM σ) (Rx := fun a => pm_J mX12_span 3 66 lay0 (some (pv_i ρ.1)) LAYM ρ.2 132 [none, none, none, none, none, some (pv_i a.1), none, none] [] LAYM σ) (tbX12_span_45 w1 w2 w3 σ) _ _ _ e19 ?_
    show pm_J mX12_span 3 66 lay0 (some (pv_i ρ.1)) LAYM ρ.2 132 [none, none, none, none, none, some (pv_i v18.1), none, none] [] LAYM σ
    refine pr_iload dX12_span_132 rfl ?_
    have h := Option.some.inj h
    subst h
    exact pr_iret dX12_span_134 rfl
  · have h := pm_ng c_4 h
    refine pr_aload_n dX12_span_31 rfl ?_
    refine pr_iload dX12_span_32 rfl ?_
    obtain ⟨q20, e21, h⟩ := pm_bs h
    refine pr_callV (As := [pv_i u0]) (S := []) (t := 0) dX12_span_34 mk_X12_103 lm_0 (ci := 12) (q := (RX12, TX12, 36)) rfl rfl rfl rfl (by decide) (by decide) (by decide) (Or.inl rfl) (tmX12_refuse e21) ?_
    have h := Option.some.inj h
    subst h
    exact pr_iret dX12_span_37 rfl
def fX12_span (x1 : Int) (x2 : Int) (x3 : Int) (σ : pm_M) : Option (Int × pm_M) :=
  (fX12_isIn x1 (2 * (σ 0 16))).bind fun q1 => if (wr q1) = 0 then (jnX12_span_24 x1 x2 x3 (-1) σ) else ((fX12_wrong x2 0 99).bind fun q22 => jnX12_span_24 x1 x2 x3 q22 σ)
set_option maxHeartbeats 4000000 in
set_option maxRecDepth 100000 in
theorem tmX12_span {x1 : Int} {x2 : Int} {x3 : Int} {σ : pm_M} {ρ : Int × pm_M} (h : fX12_span x1 x2 x3 σ = some ρ) : pm_C mX12_span 3 66 [pv_r 0, pv_i x1, pv_i x2, pv_i x3] LAYM σ (some (pv_i ρ.1)) LAYM ρ.2 := by
  refine pm_C.of rfl rfl (by decide) ?_
  show pm_J mX12_span 3 66 LAYM (some (pv_i ρ.1)) LAYM ρ.2 0 [some (pv_r 0), some (pv_i x1), some (pv_i x2), some (pv_i x3), none, none, none, none] [] LAYM σ
  unfold fX12_span at h
  refine pr_iload_n dX12_span_0 rfl ?_
  refine pr_iconst dX12_span_1 ?_
  refine pr_aload_n dX12_span_2 rfl ?_
  refine pr_getI dX12_span_3 lk_X12_129 lm_0 rfl ?_
  refine pr_imul dX12_span_6 ?_
  obtain ⟨q1, e2, h⟩ := pm_bs h
  refine pr_callS (av := [pv_i x1, pv_i (2 * (σ 0 16))]) (S := []) dX12_span_7 mk_X12_95 rfl rfl (by decide) (by decide) (by decide) (Or.inl rfl) (tmX12_isIn e2) ?_
  refine pr_if_eq (tgt := 23) dX12_span_10 rfl (by decide) (fun c_3 => ?_) (fun c_3 => ?_)
  · have h := pm_pos c_3 h
    refine pr_iconst dX12_span_23 ?_
    refine pr_weak (L2 := [some (pv_r 0), some (pv_i x1), some (pv_i x2), some (pv_i x3), none, none, none, none]) ⟨Or.inr rfl, Or.inr rfl, Or.inr rfl, Or.inr rfl, Or.inl rfl, Or.inl rfl, Or.inl rfl, Or.inl rfl, trivial⟩ ?_
    exact tjX12_span_24 h
  · have h := pm_ng c_3 h
    refine pr_iload_n dX12_span_13 rfl ?_
    refine pr_iconst dX12_span_14 ?_
    refine pr_bipush dX12_span_15 (by decide) ?_
    obtain ⟨q22, e23, h⟩ := pm_bs h
    refine pr_callS (av := [pv_i x2, pv_i 0, pv_i 99]) (S := []) dX12_span_17 mk_X12_99 rfl rfl (by decide) (by decide) (by decide) (Or.inl rfl) (tmX12_wrong e23) ?_
    refine pr_goto (tgt := 24) dX12_span_20 (by decide) ?_
    refine pr_weak (L2 := [some (pv_r 0), some (pv_i x1), some (pv_i x2), some (pv_i x3), none, none, none, none]) ⟨Or.inr rfl, Or.inr rfl, Or.inr rfl, Or.inr rfl, Or.inl rfl, Or.inl rfl, Or.inl rfl, Or.inl rfl, trivial⟩ ?_
    exact tjX12_span_24 h
