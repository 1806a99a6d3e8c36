def fX12_oldB (x1 : Int) (x2 : Int) (x3 : Int) (σ : pm_M) : Option (Int × pm_M) :=
  (fX12_olds 3 x1 x2 x3 σ).bind fun q1 => some (q1.1, q1.2)
set_option maxHeartbeats 4000000 in
set_option maxRecDepth 100000 in
theorem tmX12_oldB {x1 : Int} {x2 : Int} {x3 : Int} {σ : pm_M} {ρ : Int × pm_M} (h : fX12_oldB x1 x2 x3 σ = some ρ) : pm_C mX12_oldB 2 45 [pv_r 0, pv_i x1, pv_i x2, pv_i x3] LAYM σ (some (pv_i ρ.1)) LAYM ρ.2 := by
  refine pm_C.of (by decide) rfl (Nat.le_of_ble_eq_true rfl) ?_
  show pm_J mX12_oldB 2 45 LAYM (some (pv_i ρ.1)) LAYM ρ.2 0 [some (pv_r 0), some (pv_i x1), some (pv_i x2), some (pv_i x3)] [] LAYM σ
  unfold fX12_oldB at h
  refine pr_aload_n dX12_oldB_0 rfl ?_
  refine pr_iconst dX12_oldB_1 ?_
  refine pr_iload_n dX12_oldB_2 rfl ?_
  refine pr_iload_n dX12_oldB_3 rfl ?_
  refine pr_iload_n dX12_oldB_4 rfl ?_
  obtain ⟨q1, e2, h⟩ := pm_bs h
  refine pr_callV (As := [pv_i 3, pv_i x1, pv_i x2, pv_i x3]) (S := []) (t := 0) dX12_oldB_5 mk_X12_208 lm_0 (ci := 12) (q := (RX12, TX12, 36)) rfl rfl rfl rfl (Nat.le_of_ble_eq_true rfl) (by decide) (by decide) (Or.inl rfl) (tmX12_olds e2) ?_
  have h := Option.some.inj h
  subst h
  exact pr_iret dX12_oldB_8 rfl
def fX12_far (x1 : Int) (x2 : Int) (σ : pm_M) : Option (Int) :=
  pm_g (0 ≤ (wr x2) ∧ (wr x2) < 6) (if 0 ≤ (wr (σ 24 (Int.toNat (wr x2)))) then (pm_g (0 ≤ (wr x2) ∧ (wr x2) < 6) (pm_g (0 ≤ (wr ((6 * x1) + x2)) ∧ (wr ((6 * x1) + x2)) < 28800) (some (pm_abs ((σ 24 (Int.toNat (wr x2))) - (σ 22 (Int.toNat (wr ((6 * x1) + x2))))))))) else (some 0))
set_option maxHeartbeats 4000000 in
set_option maxRecDepth 100000 in
theorem tmX12_far {x1 : Int} {x2 : Int} {σ : pm_M} {ρ : Int} (h : fX12_far x1 x2 σ = some ρ) : pm_C mX12_far 1 21 [pv_r 0, pv_i x1, pv_i x2] LAYM σ (some (pv_i ρ)) LAYM σ := by
  refine pm_C.of (by decide) rfl (Nat.le_of_ble_eq_true rfl) ?_
  show pm_J mX12_far 1 21 LAYM (some (pv_i ρ)) LAYM σ 0 [some (pv_r 0), some (pv_i x1), some (pv_i x2)] [] LAYM σ
  unfold fX12_far at h
  refine pr_aload_n dX12_far_0 rfl ?_
  refine pr_getR dX12_far_1 lk_X12_83 lm_0 rfl ?_
  refine pr_iload_n dX12_far_4 rfl ?_
  obtain ⟨g_1, h⟩ := pm_gs h
  refine pr_iald dX12_far_5 lm_24 rfl g_1 ?_
  refine pr_if_ge (tgt := 13) dX12_far_6 rfl (by decide) (fun c_2 => ?_) (fun c_2 => ?_)
  · have h := pm_pos c_2 h
    refine pr_aload_n dX12_far_13 rfl ?_
    refine pr_getR dX12_far_14 lk_X12_83 lm_0 rfl ?_
    refine pr_iload_n dX12_far_17 rfl ?_
    obtain ⟨g_3, h⟩ := pm_gs h
    refine pr_iald dX12_far_18 lm_24 rfl g_3 ?_
    refine pr_aload_n dX12_far_19 rfl ?_
    refine pr_getR dX12_far_20 lk_X12_77 lm_0 rfl ?_
    refine pr_bipush dX12_far_23 (by decide) ?_
    refine pr_iload_n dX12_far_25 rfl ?_
    refine pr_imul dX12_far_26 ?_
    refine pr_iload_n dX12_far_27 rfl ?_
    refine pr_iadd dX12_far_28 ?_
    obtain ⟨g_4, h⟩ := pm_gs h
    refine pr_iald dX12_far_29 lm_22 rfl g_4 ?_
    refine pr_isub dX12_far_30 ?_
    refine pr_mabs dX12_far_31 mm_X12_212 (by decide) (Nat.le_of_ble_eq_true rfl) ?_
    have h := Option.some.inj h
    subst h
    exact pr_iret dX12_far_34 rfl
  · have h := pm_ng c_2 h
    refine pr_iconst dX12_far_9 ?_
    refine pr_goto (tgt := 34) dX12_far_10 (by decide) ?_
    have h := Option.some.inj h
    subst h
    exact pr_iret dX12_far_34 rfl
def bdX12_isBy_5 (y1 : Int) (y2 : Int) (σ : pm_M) (z3 : Int) (z4 : Int) : Option ((Int × Int) ⊕ (Int × Int)) :=
  if 6 ≤ (wr z4) then (some (.inl (z3, z4))) else (if (wr z3) = 0 then (some (.inr (0, (z4 + 1)))) else ((fX12_far y1 z4 σ).bind fun q3 => if (wr y2) < (wr q3) then (some (.inr (0, (z4 + 1)))) else (some (.inr (1, (z4 + 1))))))
set_option maxHeartbeats 4000000 in
set_option maxRecDepth 100000 in
theorem tbX12_isBy_5 {lay0 lay' : List pm_S} {r : Option pm_V} {σ' : pm_M} (y1 : Int) (y2 : Int) (σ : pm_M) : ∀ (a : Int × Int) (e : (Int × Int) ⊕ (Int × Int)), (fun a => bdX12_isBy_5 y1 y2 σ a.1 a.2) a = some e → (∀ a, e = .inr a → (fun a => pm_J mX12_isBy 2 43 lay0 r lay' σ' 5 [some (pv_r 0), some (pv_i y1), some (pv_i y2), some (pv_i a.1), some (pv_i a.2)] [] LAYM σ) a) → (∀ a, e = .inl a → (fun a => pm_J mX12_isBy 2 43 lay0 r lay' σ' 39 [none, none, none, some (pv_i a.1), none] [] LAYM σ) a) → (fun a => pm_J mX12_isBy 2 43 lay0 r lay' σ' 5 [some (pv_r 0), some (pv_i y1), some (pv_i y2), some (pv_i a.1), some (pv_i a.2)] [] LAYM σ) a := by
  intro a e h hc hx
  obtain ⟨z3, z4⟩ := a
  have h : bdX12_isBy_5 y1 y2 σ z3 z4 = some e := h
  unfold bdX12_isBy_5 at h
  show pm_J mX12_isBy 2 43 lay0 r lay' σ' 5 [some (pv_r 0), some (pv_i y1), some (pv_i y2), some (pv_i z3), some (pv_i z4)] [] LAYM σ
  refine pr_iload dX12_isBy_5 rfl ?_
  refine pr_bipush dX12_isBy_7 (by decide) ?_
  refine pr_icmp_ge (tgt := 39) dX12_isBy_9 rfl (wr_eq (by decide) (by decide)) (by decide) (fun c_1 => ?_) (fun c_1 => ?_)
  · have h := pm_pos c_1 h
    refine pr_weak (L2 := [none, none, none, some (pv_i z3), none]) ⟨Or.inl rfl, Or.inl rfl, Or.inl rfl, Or.inr rfl, Or.inl rfl, trivial⟩ ?_
    exact hx (z3, z4) (Option.some.inj h).symm
  · have h := pm_ng c_1 h
    refine pr_iload_n dX12_isBy_12 rfl ?_
    refine pr_if_eq (tgt := 31) dX12_isBy_13 rfl (by decide) (fun c_2 => ?_) (fun c_2 => ?_)
    · have h := pm_pos c_2 h
      refine pr_iconst dX12_isBy_31 ?_
      refine pr_istore_n dX12_isBy_32 (by decide) rfl ?_
      refine pr_iinc dX12_isBy_33 rfl (by decide) rfl ?_
      refine pr_goto (tgt := 5) dX12_isBy_36 (by decide) ?_
      refine pr_weak (L2 := [some (pv_r 0), some (pv_i y1), some (pv_i y2), some (pv_i 0), some (pv_i (z4 + 1))]) ⟨Or.inr rfl, Or.inr rfl, Or.inr rfl, Or.inr rfl, Or.inr rfl, trivial⟩ ?_
      exact hc (0, (z4 + 1)) (Option.some.inj h).symm
    · have h := pm_ng c_2 h
      refine pr_aload_n dX12_isBy_16 rfl ?_
      refine pr_iload_n dX12_isBy_17 rfl ?_
      refine pr_iload dX12_isBy_18 rfl ?_
      obtain ⟨q3, e4, h⟩ := pm_bs h
      refine pr_callV (As := [pv_i y1, pv_i z4]) (S := []) (t := 0) dX12_isBy_20 mk_X12_215 lm_0 (ci := 12) (q := (RX12, TX12, 36)) rfl rfl rfl rfl (Nat.le_of_ble_eq_true rfl) (by decide) (by decide) (Or.inl rfl) (tmX12_far e4) ?_
      refine pr_iload_n dX12_isBy_23 rfl ?_
      refine pr_icmp_gt (tgt := 31) dX12_isBy_24 rfl rfl (by decide) (fun c_5 => ?_) (fun c_5 => ?_)
      · have h := pm_pos c_5 h
        refine pr_iconst dX12_isBy_31 ?_
        refine pr_istore_n dX12_isBy_32 (by decide) rfl ?_
        refine pr_iinc dX12_isBy_33 rfl (by decide) rfl ?_
        refine pr_goto (tgt := 5) dX12_isBy_36 (by decide) ?_
        refine pr_weak (L2 := [some (pv_r 0), some (pv_i y1), some (pv_i y2), some (pv_i 0), some (pv_i (z4 + 1))]) ⟨Or.inr rfl, Or.inr rfl, Or.inr rfl, Or.inr rfl, Or.inr rfl, trivial⟩ ?_
        exact hc (0, (z4 + 1)) (Option.some.inj h).symm
      · have h := pm_ng c_5 h
        refine pr_iconst dX12_isBy_27 ?_
        refine pr_goto (tgt := 32) dX12_isBy_28 (by decide) ?_
        refine pr_istore_n dX12_isBy_32 (by decide) rfl ?_
        refine pr_iinc dX12_isBy_33 rfl (by decide) rfl ?_
        refine pr_goto (tgt := 5) dX12_isBy_36 (by decide) ?_
        refine pr_weak (L2 := [some (pv_r 0), some (pv_i y1), some (pv_i y2), some (pv_i 1), some (pv_i (z4 + 1))]) ⟨Or.inr rfl, Or.inr rfl, Or.inr rfl, Or.inr rfl, Or.inr rfl, trivial⟩ ?_
        exact hc (1, (z4 + 1)) (Option.some.inj h).symm
def fX12_isBy (x1 : Int) (x2 : Int) (σ : pm_M) : Option (Int) :=
  (pm_it (fun a => bdX12_isBy_5 x1 x2 σ a.1 a.2) pm_fuel (1, 0)).bind fun v6 => pm_g (v6.1 = 0 ∨ v6.1 = 1) (some v6.1)
set_option maxHeartbeats 4000000 in
set_option maxRecDepth 100000 in
theorem tmX12_isBy {x1 : Int} {x2 : Int} {σ : pm_M} {ρ : Int} (h : fX12_isBy x1 x2 σ = some ρ) : pm_C mX12_isBy 2 43 [pv_r 0, pv_i x1, pv_i x2] LAYM σ (some (pv_i ρ)) LAYM σ := by
  refine pm_C.of (by decide) rfl (Nat.le_of_ble_eq_true rfl) ?_
  show pm_J mX12_isBy 2 43 LAYM (some (pv_i ρ)) LAYM σ 0 [some (pv_r 0), some (pv_i x1), some (pv_i x2), none, none] [] LAYM σ
  unfold fX12_isBy at h
  refine pr_iconst dX12_isBy_0 ?_
  refine pr_istore_n dX12_isBy_1 (by decide) rfl ?_
  refine pr_iconst dX12_isBy_2 ?_
  refine pr_istore dX12_isBy_3 (by decide) rfl ?_
  obtain ⟨v6, e7, h⟩ := pm_bs h
  refine pr_weak (L2 := [some (pv_r 0), some (pv_i x1), some (pv_i x2), some (pv_i 1), some (pv_i 0)]) ⟨Or.inr rfl, Or.inr rfl, Or.inr rfl, Or.inr rfl, Or.inr rfl, trivial⟩ ?_
  refine pm_it_J (α := Int × Int) (β := Int × Int) (f := fun a => bdX12_isBy_5 x1 x2 σ a.1 a.2) (P := fun a => pm_J mX12_isBy 2 43 LAYM (some (pv_i ρ)) LAYM σ 5 [some (pv_r 0), some (pv_i x1), some (pv_i x2), some (pv_i a.1), some (pv_i a.2)] [] LAYM σ) (Rx := fun a => pm_J mX12_isBy 2 43 LAYM (some (pv_i ρ)) LAYM σ 39 [none, none, none, some (pv_i a.1), none] [] LAYM σ) (tbX12_isBy_5 x1 x2 σ) pm_fuel (1, 0) v6 e7 ?_
  show pm_J mX12_isBy 2 43 LAYM (some (pv_i ρ)) LAYM σ 39 [none, none, none, some (pv_i v6.1), none] [] LAYM σ
  refine pr_iload_n dX12_isBy_39 rfl ?_
  obtain ⟨g_8, h⟩ := pm_gs h
  have h := Option.some.inj h
  subst h
  exact pr_zret dX12_isBy_40 rfl g_8
def bdX12_lies_23 (y1 : Int) (σ : pm_M) (z3 : Int) (z4 : Int) : Option ((Int × Int) ⊕ (Int × Int)) :=
  if (wr (60 * (σ 25 (Int.toNat 752)))) ≤ (wr z4) then (some (.inl (z3, z4))) else ((fX12_isBy z4 y1 σ).bind fun q5 => if (wr q5) = 0 then (some (.inr ((z3 + 0), (z4 + 1)))) else (some (.inr ((z3 + 1), (z4 + 1)))))
set_option maxHeartbeats 4000000 in
set_option maxRecDepth 100000 in
theorem tbX12_lies_23 {lay0 lay' : List pm_S} {r : Option pm_V} {σ' : pm_M} (y1 : Int) (σ : pm_M) : ∀ (a : Int × Int) (e : (Int × Int) ⊕ (Int × Int)), (fun a => bdX12_lies_23 y1 σ a.1 a.2) a = some e → (∀ a, e = .inr a → (fun a => pm_J mX12_lies 3 67 lay0 r lay' σ' 23 [some (pv_r 0), some (pv_i y1), none, some (pv_i a.1), some (pv_i a.2)] [] LAYM σ) a) → (∀ a, e = .inl a → (fun a => pm_J mX12_lies 3 67 lay0 r lay' σ' 63 [none, none, none, some (pv_i a.1), none] [] LAYM σ) a) → (fun a => pm_J mX12_lies 3 67 lay0 r lay' σ' 23 [some (pv_r 0), some (pv_i y1), none, some (pv_i a.1), some (pv_i a.2)] [] LAYM σ) a := by
  intro a e h hc hx
  obtain ⟨z3, z4⟩ := a
  have h : bdX12_lies_23 y1 σ z3 z4 = some e := h
  unfold bdX12_lies_23 at h
  show pm_J mX12_lies 3 67 lay0 r lay' σ' 23 [some (pv_r 0), some (pv_i y1), none, some (pv_i z3), some (pv_i z4)] [] LAYM σ
  refine pr_iload dX12_lies_23 rfl ?_
  refine pr_bipush dX12_lies_25 (by decide) ?_
  refine pr_aload_n dX12_lies_27 rfl ?_
  refine pr_getR dX12_lies_28 lk_X12_86 lm_0 rfl ?_
  refine pr_sipush dX12_lies_31 (by decide) ?_
  refine pr_iald dX12_lies_34 lm_25 (wr_eq (by decide) (by decide)) ⟨by decide, by decide⟩ ?_
  refine pr_imul dX12_lies_35 ?_
  refine pr_icmp_ge (tgt := 63) dX12_lies_36 rfl rfl (by decide) (fun c_4 => ?_) (fun c_4 => ?_)
  · have h := pm_pos c_4 h
    refine pr_weak (L2 := [none, none, none, some (pv_i z3), none]) ⟨Or.inl rfl, Or.inl rfl, Or.inl rfl, Or.inr rfl, Or.inl rfl, trivial⟩ ?_
    exact hx (z3, z4) (Option.some.inj h).symm
  · have h := pm_ng c_4 h
    refine pr_iload_n dX12_lies_39 rfl ?_
    refine pr_aload_n dX12_lies_40 rfl ?_
    refine pr_iload dX12_lies_41 rfl ?_
    refine pr_iload_n dX12_lies_43 rfl ?_
    obtain ⟨q5, e6, h⟩ := pm_bs h
    refine pr_callV (As := [pv_i z4, pv_i y1]) (S := [pv_i z3]) (t := 0) dX12_lies_44 mk_X12_218 lm_0 (ci := 12) (q := (RX12, TX12, 36)) rfl rfl rfl rfl (Nat.le_of_ble_eq_true rfl) (by decide) (by decide) (Or.inl rfl) (tmX12_isBy e6) ?_
    refine pr_if_eq (tgt := 54) dX12_lies_47 rfl (by decide) (fun c_7 => ?_) (fun c_7 => ?_)
    · have h := pm_pos c_7 h
      refine pr_iconst dX12_lies_54 ?_
      refine pr_iadd dX12_lies_55 ?_
      refine pr_istore_n dX12_lies_56 (by decide) rfl ?_
      refine pr_iinc dX12_lies_57 rfl (by decide) rfl ?_
      refine pr_goto (tgt := 23) dX12_lies_60 (by decide) ?_
      refine pr_weak (L2 := [some (pv_r 0), some (pv_i y1), none, some (pv_i (z3 + 0)), some (pv_i (z4 + 1))]) ⟨Or.inr rfl, Or.inr rfl, Or.inl rfl, Or.inr rfl, Or.inr rfl, trivial⟩ ?_
      exact hc ((z3 + 0), (z4 + 1)) (Option.some.inj h).symm
    · have h := pm_ng c_7 h
      refine pr_iconst dX12_lies_50 ?_
      refine pr_goto (tgt := 55) dX12_lies_51 (by decide) ?_
      refine pr_iadd dX12_lies_55 ?_
      refine pr_istore_n dX12_lies_56 (by decide) rfl ?_
      refine pr_iinc dX12_lies_57 rfl (by decide) rfl ?_
      refine pr_goto (tgt := 23) dX12_lies_60 (by decide) ?_
      refine pr_weak (L2 := [some (pv_r 0), some (pv_i y1), none, some (pv_i (z3 + 1)), some (pv_i (z4 + 1))]) ⟨Or.inr rfl, Or.inr rfl, Or.inl rfl, Or.inr rfl, Or.inr rfl, trivial⟩ ?_
      exact hc ((z3 + 1), (z4 + 1)) (Option.some.inj h).symm
def fX12_lies (x1 : Int) (σ : pm_M) : Option (Int × pm_M) :=
  (fX12_wrong x1 0 99).bind fun q1 => if (wr q1) = 0 then ((pm_it (fun a => bdX12_lies_23 x1 σ a.1 a.2) pm_fuel (0, 0)).bind fun v8 => some (v8.1, σ)) else ((fX12_refuse q1 σ).bind fun q10 => some (q10.1, q10.2))
set_option maxHeartbeats 4000000 in
set_option maxRecDepth 100000 in
theorem tmX12_lies {x1 : Int} {σ : pm_M} {ρ : Int × pm_M} (h : fX12_lies x1 σ = some ρ) : pm_C mX12_lies 3 67 [pv_r 0, pv_i x1] LAYM σ (some (pv_i ρ.1)) LAYM ρ.2 := by
  refine pm_C.of (by decide) rfl (Nat.le_of_ble_eq_true rfl) ?_
  show pm_J mX12_lies 3 67 LAYM (some (pv_i ρ.1)) LAYM ρ.2 0 [some (pv_r 0), some (pv_i x1), none, none, none] [] LAYM σ
  unfold fX12_lies at h
  refine pr_iload_n dX12_lies_0 rfl ?_
  refine pr_iconst dX12_lies_1 ?_
  refine pr_bipush dX12_lies_2 (by decide) ?_
  obtain ⟨q1, e2, h⟩ := pm_bs h
  refine pr_callS (av := [pv_i x1, pv_i 0, pv_i 99]) (S := []) dX12_lies_4 mk_X12_99 rfl rfl (Nat.le_of_ble_eq_true rfl) (by decide) (by decide) (Or.inl rfl) (tmX12_wrong e2) ?_
  refine pr_istore_n dX12_lies_7 (by decide) rfl ?_
  refine pr_iload_n dX12_lies_8 rfl ?_
  refine pr_if_eq (tgt := 18) dX12_lies_9 rfl (by decide) (fun c_3 => ?_) (fun c_3 => ?_)
  · have h := pm_pos c_3 h
    refine pr_iconst dX12_lies_18 ?_
    refine pr_istore_n dX12_lies_19 (by decide) rfl ?_
    refine pr_iconst dX12_lies_20 ?_
    refine pr_istore dX12_lies_21 (by decide) rfl ?_
    obtain ⟨v8, e9, h⟩ := pm_bs h
    refine pr_weak (L2 := [some (pv_r 0), some (pv_i x1), none, some (pv_i 0), some (pv_i 0)]) ⟨Or.inr rfl, Or.inr rfl, Or.inl rfl, Or.inr rfl, Or.inr rfl, trivial⟩ ?_
    refine pm_it_J (α := Int × Int) (β := Int × Int) (f := fun a => bdX12_lies_23 x1 σ a.1 a.2) (P := fun a => pm_J mX12_lies 3 67 LAYM (some (pv_i ρ.1)) LAYM ρ.2 23 [some (pv_r 0), some (pv_i x1), none, some (pv_i a.1), some (pv_i a.2)] [] LAYM σ) (Rx := fun a => pm_J mX12_lies 3 67 LAYM (some (pv_i ρ.1)) LAYM ρ.2 63 [none, none, none, some (pv_i a.1), none] [] LAYM σ) (tbX12_lies_23 x1 σ) pm_fuel (0, 0) v8 e9 ?_
    show pm_J mX12_lies 3 67 LAYM (some (pv_i ρ.1)) LAYM ρ.2 63 [none, none, none, some (pv_i v8.1), none] [] LAYM σ
    refine pr_iload_n dX12_lies_63 rfl ?_
    have h := Option.some.inj h
    subst h
    exact pr_iret dX12_lies_64 rfl
  · have h := pm_ng c_3 h
    refine pr_aload_n dX12_lies_12 rfl ?_
    refine pr_iload_n dX12_lies_13 rfl ?_
    obtain ⟨q10, e11, h⟩ := pm_bs h
    refine pr_callV (As := [pv_i q1]) (S := []) (t := 0) dX12_lies_14 mk_X12_103 lm_0 (ci := 12) (q := (RX12, TX12, 36)) rfl rfl rfl rfl (Nat.le_of_ble_eq_true rfl) (by decide) (by decide) (Or.inl rfl) (tmX12_refuse e11) ?_
    have h := Option.some.inj h
    subst h
    exact pr_iret dX12_lies_17 rfl
def fX12_mouldOfSheet (x1 : Int) (σ : pm_M) : Option (Int) :=
  (fX12_post (Int.tdiv (wr x1) 60) 1 σ).bind fun q1 => some ((2 * q1) + (Int.tmod (wr x1) 2))
set_option maxHeartbeats 4000000 in
set_option maxRecDepth 100000 in
theorem tmX12_mouldOfSheet {x1 : Int} {σ : pm_M} {ρ : Int} (h : fX12_mouldOfSheet x1 σ = some ρ) : pm_C mX12_mouldOfSheet 1 22 [pv_r 0, pv_i x1] LAYM σ (some (pv_i ρ)) LAYM σ := by
  refine pm_C.of (by decide) rfl (Nat.le_of_ble_eq_true rfl) ?_
  show pm_J mX12_mouldOfSheet 1 22 LAYM (some (pv_i ρ)) LAYM σ 0 [some (pv_r 0), some (pv_i x1)] [] LAYM σ
  unfold fX12_mouldOfSheet at h
  refine pr_iconst dX12_mouldOfSheet_0 ?_
  refine pr_aload_n dX12_mouldOfSheet_1 rfl ?_
  refine pr_iload_n dX12_mouldOfSheet_2 rfl ?_
  refine pr_bipush dX12_mouldOfSheet_3 (by decide) ?_
  refine pr_idiv dX12_mouldOfSheet_5 rfl (wr_eq (by decide) (by decide)) (by decide) ?_
  refine pr_iconst dX12_mouldOfSheet_6 ?_
  obtain ⟨q1, e2, h⟩ := pm_bs h
  refine pr_callV (As := [pv_i (Int.tdiv (wr x1) 60), pv_i 1]) (S := [pv_i 2]) (t := 0) dX12_mouldOfSheet_7 mk_X12_138 lm_0 (ci := 12) (q := (RX12, TX12, 36)) rfl rfl rfl rfl (Nat.le_of_ble_eq_true rfl) (by decide) (by decide) (Or.inl rfl) (tmX12_post e2) ?_
  refine pr_imul dX12_mouldOfSheet_10 ?_
  refine pr_iload_n dX12_mouldOfSheet_11 rfl ?_
  refine pr_iconst dX12_mouldOfSheet_12 ?_
  refine pr_irem dX12_mouldOfSheet_13 rfl (wr_eq (by decide) (by decide)) (by decide) ?_
  refine pr_iadd dX12_mouldOfSheet_14 ?_
  have h := Option.some.inj h
  subst h
  exact pr_iret dX12_mouldOfSheet_15 rfl
def bdX12_nearest_44 (y1 : Int) (y2 : Int) (y3 : Int) (y4 : Int) (σ : pm_M) (z5 : Int) (z6 : Int) : Option ((Int × Int) ⊕ (Int × Int)) :=
  if 6 ≤ (wr z6) then (some (.inl (z5, z6))) else ((fX12_far y4 z6 σ).bind fun q6 => some (.inr ((z5 + q6), (z6 + 1))))
set_option maxHeartbeats 4000000 in
set_option maxRecDepth 100000 in
theorem tbX12_nearest_44 {lay0 lay' : List pm_S} {r : Option pm_V} {σ' : pm_M} (y1 : Int) (y2 : Int) (y3 : Int) (y4 : Int) (σ : pm_M) : ∀ (a : Int × Int) (e : (Int × Int) ⊕ (Int × Int)), (fun a => bdX12_nearest_44 y1 y2 y3 y4 σ a.1 a.2) a = some e → (∀ a, e = .inr a → (fun a => pm_J mX12_nearest 2 43 lay0 r lay' σ' 44 [some (pv_r 0), some (pv_i y1), some (pv_i y2), some (pv_i y3), some (pv_i y4), some (pv_i a.1), some (pv_i a.2)] [] LAYM σ) a) → (∀ a, e = .inl a → (fun a => pm_J mX12_nearest 2 43 lay0 r lay' σ' 70 [some (pv_r 0), some (pv_i y1), some (pv_i y2), some (pv_i y3), some (pv_i y4), some (pv_i a.1), none] [] LAYM σ) a) → (fun a => pm_J mX12_nearest 2 43 lay0 r lay' σ' 44 [some (pv_r 0), some (pv_i y1), some (pv_i y2), some (pv_i y3), some (pv_i y4), some (pv_i a.1), some (pv_i a.2)] [] LAYM σ) a := by
  intro a e h hc hx
  obtain ⟨z5, z6⟩ := a
  have h : bdX12_nearest_44 y1 y2 y3 y4 σ z5 z6 = some e := h
  unfold bdX12_nearest_44 at h
  show pm_J mX12_nearest 2 43 lay0 r lay' σ' 44 [some (pv_r 0), some (pv_i y1), some (pv_i y2), some (pv_i y3), some (pv_i y4), some (pv_i z5), some (pv_i z6)] [] LAYM σ
  refine pr_iload dX12_nearest_44 rfl ?_
  refine pr_bipush dX12_nearest_46 (by decide) ?_
  refine pr_icmp_ge (tgt := 70) dX12_nearest_48 rfl (wr_eq (by decide) (by decide)) (by decide) (fun c_5 => ?_) (fun c_5 => ?_)
  · have h := pm_pos c_5 h
    refine pr_weak (L2 := [some (pv_r 0), some (pv_i y1), some (pv_i y2), some (pv_i y3), some (pv_i y4), some (pv_i z5), none]) ⟨Or.inr rfl, Or.inr rfl, Or.inr rfl, Or.inr rfl, Or.inr rfl, Or.inr rfl, Or.inl rfl, trivial⟩ ?_
    exact hx (z5, z6) (Option.some.inj h).symm
  · have h := pm_ng c_5 h
    refine pr_iload dX12_nearest_51 rfl ?_
    refine pr_aload_n dX12_nearest_53 rfl ?_
    refine pr_iload dX12_nearest_54 rfl ?_
    refine pr_iload dX12_nearest_56 rfl ?_
    obtain ⟨q6, e7, h⟩ := pm_bs h
    refine pr_callV (As := [pv_i y4, pv_i z6]) (S := [pv_i z5]) (t := 0) dX12_nearest_58 mk_X12_215 lm_0 (ci := 12) (q := (RX12, TX12, 36)) rfl rfl rfl rfl (Nat.le_of_ble_eq_true rfl) (by decide) (by decide) (Or.inl rfl) (tmX12_far e7) ?_
    refine pr_iadd dX12_nearest_61 ?_
    refine pr_istore dX12_nearest_62 (by decide) rfl ?_
    refine pr_iinc dX12_nearest_64 rfl (by decide) rfl ?_
    refine pr_goto (tgt := 44) dX12_nearest_67 (by decide) ?_
    refine pr_weak (L2 := [some (pv_r 0), some (pv_i y1), some (pv_i y2), some (pv_i y3), some (pv_i y4), some (pv_i (z5 + q6)), some (pv_i (z6 + 1))]) ⟨Or.inr rfl, Or.inr rfl, Or.inr rfl, Or.inr rfl, Or.inr rfl, Or.inr rfl, Or.inr rfl, trivial⟩ ?_
    exact hc ((z5 + q6), (z6 + 1)) (Option.some.inj h).symm
def bdX12_nearest_22 (y1 : Int) (σ : pm_M) (z2 : Int) (z3 : Int) (z4 : Int) : Option ((Int × Int × Int) ⊕ (Int × Int × Int)) :=
  if (wr (60 * (σ 25 (Int.toNat 752)))) ≤ (wr z4) then (some (.inl (z2, z3, z4))) else ((pm_it (fun a => bdX12_nearest_44 y1 z2 z3 z4 σ a.1 a.2) pm_fuel (0, 0)).bind fun v8 => if (wr z2) < 0 then (some (.inr (z4, v8.1, (z4 + 1)))) else (if (wr v8.1) < (wr z3) then (some (.inr (z4, v8.1, (z4 + 1)))) else (some (.inr (z2, z3, (z4 + 1))))))
set_option maxHeartbeats 4000000 in
set_option maxRecDepth 100000 in
theorem tbX12_nearest_22 {lay0 lay' : List pm_S} {r : Option pm_V} {σ' : pm_M} (y1 : Int) (σ : pm_M) : ∀ (a : Int × Int × Int) (e : (Int × Int × Int) ⊕ (Int × Int × Int)), (fun a => bdX12_nearest_22 y1 σ a.1 a.2.1 a.2.2) a = some e → (∀ a, e = .inr a → (fun a => pm_J mX12_nearest 2 43 lay0 r lay' σ' 22 [some (pv_r 0), some (pv_i y1), some (pv_i a.1), some (pv_i a.2.1), some (pv_i a.2.2), none, none] [] LAYM σ) a) → (∀ a, e = .inl a → (fun a => pm_J mX12_nearest 2 43 lay0 r lay' σ' 95 [some (pv_r 0), some (pv_i y1), some (pv_i a.1), some (pv_i a.2.1), none, none, none] [] LAYM σ) a) → (fun a => pm_J mX12_nearest 2 43 lay0 r lay' σ' 22 [some (pv_r 0), some (pv_i y1), some (pv_i a.1), some (pv_i a.2.1), some (pv_i a.2.2), none, none] [] LAYM σ) a := by
  intro a e h hc hx
  obtain ⟨z2, z3, z4⟩ := a
  have h : bdX12_nearest_22 y1 σ z2 z3 z4 = some e := h
  unfold bdX12_nearest_22 at h
  show pm_J mX12_nearest 2 43 lay0 r lay' σ' 22 [some (pv_r 0), some (pv_i y1), some (pv_i z2), some (pv_i z3), some (pv_i z4), none, none] [] LAYM σ
  refine pr_iload dX12_nearest_22 rfl ?_
  refine pr_bipush dX12_nearest_24 (by decide) ?_
  refine pr_aload_n dX12_nearest_26 rfl ?_
  refine pr_getR dX12_nearest_27 lk_X12_86 lm_0 rfl ?_
  refine pr_sipush dX12_nearest_30 (by decide) ?_
  refine pr_iald dX12_nearest_33 lm_25 (wr_eq (by decide) (by decide)) ⟨by decide, by decide⟩ ?_
  refine pr_imul dX12_nearest_34 ?_
  refine pr_icmp_ge (tgt := 95) dX12_nearest_35 rfl rfl (by decide) (fun c_4 => ?_) (fun c_4 => ?_)
  · have h := pm_pos c_4 h
    refine pr_weak (L2 := [some (pv_r 0), some (pv_i y1), some (pv_i z2), some (pv_i z3), none, none, none]) ⟨Or.inr rfl, Or.inr rfl, Or.inr rfl, Or.inr rfl, Or.inl rfl, Or.inl rfl, Or.inl rfl, trivial⟩ ?_
    exact hx (z2, z3, z4) (Option.some.inj h).symm
  · have h := pm_ng c_4 h
    refine pr_iconst dX12_nearest_38 ?_
    refine pr_istore dX12_nearest_39 (by decide) rfl ?_
    refine pr_iconst dX12_nearest_41 ?_
    refine pr_istore dX12_nearest_42 (by decide) rfl ?_
    obtain ⟨v8, e9, h⟩ := pm_bs h
    refine pr_weak (L2 := [some (pv_r 0), some (pv_i y1), some (pv_i z2), some (pv_i z3), some (pv_i z4), some (pv_i 0), some (pv_i 0)]) ⟨Or.inr rfl, Or.inr rfl, Or.inr rfl, Or.inr rfl, Or.inr rfl, Or.inr rfl, Or.inr rfl, trivial⟩ ?_
    refine pm_it_J (α := Int × Int) (β := Int × Int) (f := fun a => bdX12_nearest_44 y1 z2 z3 z4 σ a.1 a.2) (P := fun a => pm_J mX12_nearest 2 43 lay0 r lay' σ' 44 [some (pv_r 0), some (pv_i y1), some (pv_i z2), some (pv_i z3), some (pv_i z4), some (pv_i a.1), some (pv_i a.2)] [] LAYM σ) (Rx := fun a => pm_J mX12_nearest 2 43 lay0 r lay' σ' 70 [some (pv_r 0), some (pv_i y1), some (pv_i z2), some (pv_i z3), some (pv_i z4), some (pv_i a.1), none] [] LAYM σ) (tbX12_nearest_44 y1 z2 z3 z4 σ) pm_fuel (0, 0) v8 e9 ?_
    show pm_J mX12_nearest 2 43 lay0 r lay' σ' 70 [some (pv_r 0), some (pv_i y1), some (pv_i z2), some (pv_i z3), some (pv_i z4), some (pv_i v8.1), none] [] LAYM σ
    refine pr_iload_n dX12_nearest_70 rfl ?_
    refine pr_if_lt (tgt := 83) dX12_nearest_71 rfl (by decide) (fun c_10 => ?_) (fun c_10 => ?_)
    · have h := pm_pos c_10 h
      refine pr_iload dX12_nearest_83 rfl ?_
      refine pr_istore_n dX12_nearest_85 (by decide) rfl ?_
      refine pr_iload dX12_nearest_86 rfl ?_
      refine pr_istore_n dX12_nearest_88 (by decide) rfl ?_
      refine pr_iinc dX12_nearest_89 rfl (by decide) rfl ?_
      refine pr_goto (tgt := 22) dX12_nearest_92 (by decide) ?_
      refine pr_weak (L2 := [some (pv_r 0), some (pv_i y1), some (pv_i z4), some (pv_i v8.1), some (pv_i (z4 + 1)), none, none]) ⟨Or.inr rfl, Or.inr rfl, Or.inr rfl, Or.inr rfl, Or.inr rfl, Or.inl rfl, Or.inl rfl, trivial⟩ ?_
      exact hc (z4, v8.1, (z4 + 1)) (Option.some.inj h).symm
    · have h := pm_ng c_10 h
      refine pr_iload dX12_nearest_74 rfl ?_
      refine pr_iload_n dX12_nearest_76 rfl ?_
      refine pr_icmp_lt (tgt := 83) dX12_nearest_77 rfl rfl (by decide) (fun c_11 => ?_) (fun c_11 => ?_)
      · have h := pm_pos c_11 h
        refine pr_iload dX12_nearest_83 rfl ?_
        refine pr_istore_n dX12_nearest_85 (by decide) rfl ?_
        refine pr_iload dX12_nearest_86 rfl ?_
        refine pr_istore_n dX12_nearest_88 (by decide) rfl ?_
        refine pr_iinc dX12_nearest_89 rfl (by decide) rfl ?_
        refine pr_goto (tgt := 22) dX12_nearest_92 (by decide) ?_
        refine pr_weak (L2 := [some (pv_r 0), some (pv_i y1), some (pv_i z4), some (pv_i v8.1), some (pv_i (z4 + 1)), none, none]) ⟨Or.inr rfl, Or.inr rfl, Or.inr rfl, Or.inr rfl, Or.inr rfl, Or.inl rfl, Or.inl rfl, trivial⟩ ?_
        exact hc (z4, v8.1, (z4 + 1)) (Option.some.inj h).symm
      · have h := pm_ng c_11 h
        refine pr_goto (tgt := 89) dX12_nearest_80 (by decide) ?_
        refine pr_iinc dX12_nearest_89 rfl (by decide) rfl ?_
        refine pr_goto (tgt := 22) dX12_nearest_92 (by decide) ?_
        refine pr_weak (L2 := [some (pv_r 0), some (pv_i y1), some (pv_i z2), some (pv_i z3), some (pv_i (z4 + 1)), none, none]) ⟨Or.inr rfl, Or.inr rfl, Or.inr rfl, Or.inr rfl, Or.inr rfl, Or.inl rfl, Or.inl rfl, trivial⟩ ?_
        exact hc (z2, z3, (z4 + 1)) (Option.some.inj h).symm
def fX12_nearest (x1 : Int) (σ : pm_M) : Option (Int × pm_M) :=
  (fX12_isIn x1 5).bind fun q1 => if (wr q1) = 0 then ((fX12_refuse (-2) σ).bind fun q20 => some (q20.1, q20.2)) else ((pm_it (fun a => bdX12_nearest_22 x1 σ a.1 a.2.1 a.2.2) pm_fuel ((-1), 0, 0)).bind fun v12 => if 0 ≤ (wr v12.1) then (if (wr x1) = 0 then (some ((Int.tdiv (wr v12.1) 60), σ)) else (if (wr x1) = 1 then (some ((Int.tmod (wr v12.1) 60), σ)) else (if (wr x1) = 2 then ((fX12_mouldOfSheet v12.1 σ).bind fun q18 => some (q18, σ)) else (if (wr x1) = 3 then (some (v12.2.1, σ)) else ((fX12_post (Int.tdiv (wr v12.1) 60) 3 σ).bind fun q15 => some (q15, σ)))))) else (some ((-9), σ)))
set_option maxHeartbeats 4000000 in
set_option maxRecDepth 100000 in
theorem tmX12_nearest {x1 : Int} {σ : pm_M} {ρ : Int × pm_M} (h : fX12_nearest x1 σ = some ρ) : pm_C mX12_nearest 2 43 [pv_r 0, pv_i x1] LAYM σ (some (pv_i ρ.1)) LAYM ρ.2 := by
  refine pm_C.of (by decide) rfl (Nat.le_of_ble_eq_true rfl) ?_
  show pm_J mX12_nearest 2 43 LAYM (some (pv_i ρ.1)) LAYM ρ.2 0 [some (pv_r 0), some (pv_i x1), none, none, none, none, none] [] LAYM σ
  unfold fX12_nearest at h
  refine pr_iload_n dX12_nearest_0 rfl ?_
  refine pr_iconst dX12_nearest_1 ?_
  obtain ⟨q1, e2, h⟩ := pm_bs h
  refine pr_callS (av := [pv_i x1, pv_i 5]) (S := []) dX12_nearest_2 mk_X12_95 rfl rfl (Nat.le_of_ble_eq_true rfl) (by decide) (by decide) (Or.inl rfl) (tmX12_isIn e2) ?_
  refine pr_if_ne (tgt := 15) dX12_nearest_5 rfl (by decide) (fun c_3 => ?_) (fun c_3 => ?_)
  · have h := pm_ng c_3 h
    refine pr_iconst dX12_nearest_15 ?_
    refine pr_istore_n dX12_nearest_16 (by decide) rfl ?_
    refine pr_iconst dX12_nearest_17 ?_
    refine pr_istore_n dX12_nearest_18 (by decide) rfl ?_
    refine pr_iconst dX12_nearest_19 ?_
    refine pr_istore dX12_nearest_20 (by decide) rfl ?_
    obtain ⟨v12, e13, h⟩ := pm_bs h
    refine pr_weak (L2 := [some (pv_r 0), some (pv_i x1), some (pv_i (-1)), some (pv_i 0), some (pv_i 0), none, none]) ⟨Or.inr rfl, Or.inr rfl, Or.inr rfl, Or.inr rfl, Or.inr rfl, Or.inl rfl, Or.inl rfl, trivial⟩ ?_
    refine pm_it_J (α := Int × Int × Int) (β := Int × Int × Int) (f := fun a => bdX12_nearest_22 x1 σ a.1 a.2.1 a.2.2) (P := fun a => pm_J mX12_nearest 2 43 LAYM (some (pv_i ρ.1)) LAYM ρ.2 22 [some (pv_r 0), some (pv_i x1), some (pv_i a.1), some (pv_i a.2.1), some (pv_i a.2.2), none, none] [] LAYM σ) (Rx := fun a => pm_J mX12_nearest 2 43 LAYM (some (pv_i ρ.1)) LAYM ρ.2 95 [some (pv_r 0), some (pv_i x1), some (pv_i a.1), some (pv_i a.2.1), none, none, none] [] LAYM σ) (tbX12_nearest_22 x1 σ) pm_fuel ((-1), 0, 0) v12 e13 ?_
    show pm_J mX12_nearest 2 43 LAYM (some (pv_i ρ.1)) LAYM ρ.2 95 [some (pv_r 0), some (pv_i x1), some (pv_i v12.1), some (pv_i v12.2.1), none, none, none] [] LAYM σ
    refine pr_iload_n dX12_nearest_95 rfl ?_
    refine pr_if_ge (tgt := 102) dX12_nearest_96 rfl (by decide) (fun c_14 => ?_) (fun c_14 => ?_)
    · have h := pm_pos c_14 h
      refine pr_iload_n dX12_nearest_102 rfl ?_
      by_cases c_17_0 : (wr x1) = 0
      · have h := pm_pos c_17_0 h
        refine pr_tsIn (j := 0) (tgt := 132) dX12_nearest_103 rfl (c_17_0.trans (by decide)) (by decide) rfl (by decide) ?_
        refine pr_iload_n dX12_nearest_132 rfl ?_
        refine pr_bipush dX12_nearest_133 (by decide) ?_
        refine pr_idiv dX12_nearest_135 rfl (wr_eq (by decide) (by decide)) (by decide) ?_
        have h := Option.some.inj h
        subst h
        exact pr_iret dX12_nearest_136 rfl
      · have h := pm_ng c_17_0 h
        by_cases c_17_1 : (wr x1) = 1
        · have h := pm_pos c_17_1 h
          refine pr_tsIn (j := 1) (tgt := 137) dX12_nearest_103 rfl (c_17_1.trans (by decide)) (by decide) rfl (by decide) ?_
          refine pr_iload_n dX12_nearest_137 rfl ?_
          refine pr_bipush dX12_nearest_138 (by decide) ?_
          refine pr_irem dX12_nearest_140 rfl (wr_eq (by decide) (by decide)) (by decide) ?_
          have h := Option.some.inj h
          subst h
          exact pr_iret dX12_nearest_141 rfl
        · have h := pm_ng c_17_1 h
          by_cases c_17_2 : (wr x1) = 2
          · have h := pm_pos c_17_2 h
            refine pr_tsIn (j := 2) (tgt := 142) dX12_nearest_103 rfl (c_17_2.trans (by decide)) (by decide) rfl (by decide) ?_
            refine pr_aload_n dX12_nearest_142 rfl ?_
            refine pr_iload_n dX12_nearest_143 rfl ?_
            obtain ⟨q18, e19, h⟩ := pm_bs h
            refine pr_callV (As := [pv_i v12.1]) (S := []) (t := 0) dX12_nearest_144 mk_X12_221 lm_0 (ci := 12) (q := (RX12, TX12, 36)) rfl rfl rfl rfl (Nat.le_of_ble_eq_true rfl) (by decide) (by decide) (Or.inl rfl) (tmX12_mouldOfSheet e19) ?_
            have h := Option.some.inj h
            subst h
            exact pr_iret dX12_nearest_147 rfl
          · have h := pm_ng c_17_2 h
            by_cases c_17_3 : (wr x1) = 3
            · have h := pm_pos c_17_3 h
              refine pr_tsIn (j := 3) (tgt := 148) dX12_nearest_103 rfl (c_17_3.trans (by decide)) (by decide) rfl (by decide) ?_
              refine pr_iload_n dX12_nearest_148 rfl ?_
              have h := Option.some.inj h
              subst h
              exact pr_iret dX12_nearest_149 rfl
            · have h := pm_ng c_17_3 h
              refine pr_tsOut (tgt := 150) dX12_nearest_103 rfl (by omega) (by decide) ?_
              refine pr_aload_n dX12_nearest_150 rfl ?_
              refine pr_iload_n dX12_nearest_151 rfl ?_
              refine pr_bipush dX12_nearest_152 (by decide) ?_
              refine pr_idiv dX12_nearest_154 rfl (wr_eq (by decide) (by decide)) (by decide) ?_
              refine pr_iconst dX12_nearest_155 ?_
              obtain ⟨q15, e16, h⟩ := pm_bs h
              refine pr_callV (As := [pv_i (Int.tdiv (wr v12.1) 60), pv_i 3]) (S := []) (t := 0) dX12_nearest_156 mk_X12_138 lm_0 (ci := 12) (q := (RX12, TX12, 36)) rfl rfl rfl rfl (Nat.le_of_ble_eq_true rfl) (by decide) (by decide) (Or.inl rfl) (tmX12_post e16) ?_
              have h := Option.some.inj h
              subst h
              exact pr_iret dX12_nearest_159 rfl
    · have h := pm_ng c_14 h
      refine pr_bipush dX12_nearest_99 (by decide) ?_
      have h := Option.some.inj h
      subst h
      exact pr_iret dX12_nearest_101 rfl
  · have h := pm_pos c_3 h
    refine pr_aload_n dX12_nearest_8 rfl ?_
    refine pr_bipush dX12_nearest_9 (by decide) ?_
    obtain ⟨q20, e21, h⟩ := pm_bs h
    refine pr_callV (As := [pv_i (-2)]) (S := []) (t := 0) dX12_nearest_11 mk_X12_103 lm_0 (ci := 12) (q := (RX12, TX12, 36)) rfl rfl rfl rfl (Nat.le_of_ble_eq_true rfl) (by decide) (by decide) (Or.inl rfl) (tmX12_refuse e21) ?_
    have h := Option.some.inj h
    subst h
    exact pr_iret dX12_nearest_14 rfl
