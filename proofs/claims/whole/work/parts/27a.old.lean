def fX4_differsBy (x1 : Int) (x2 : Int) (x3 : Int) (σ : pm_M) : Option (Int) :=
  pm_g (0 ≤ (wr x3) ∧ (wr x3) < 6) (if (wr (σ 90 (Int.toNat (wr x3)))) = (-1) then (some 0) else (pm_g (0 ≤ (wr x3) ∧ (wr x3) < 6) ((fX2_groupMark 15 x1 x2 x3 σ).bind fun q4 => some (pm_abs ((σ 90 (Int.toNat (wr x3))) - q4)))))
set_option maxHeartbeats 4000000 in
set_option maxRecDepth 100000 in
theorem tmX4_differsBy {x1 : Int} {x2 : Int} {x3 : Int} {σ : pm_M} {ρ : Int} (h : fX4_differsBy x1 x2 x3 σ = some ρ) : pm_C mX4_differsBy 1 23 [pv_r 89, pv_i x1, pv_i x2, pv_i x3] LAYC σ (some (pv_i ρ)) LAYC σ := by
  refine pm_C.of (by decide) rfl (Nat.le_of_ble_eq_true rfl) ?_
  show pm_J mX4_differsBy 1 23 LAYC (some (pv_i ρ)) LAYC σ 0 [some (pv_r 89), some (pv_i x1), some (pv_i x2), some (pv_i x3)] [] LAYC σ
  unfold fX4_differsBy at h
  refine pr_aload_n dX4_differsBy_0 rfl ?_
  refine pr_getR dX4_differsBy_1 lk_X4_9 lc_89 rfl ?_
  refine pr_iload_n dX4_differsBy_4 rfl ?_
  obtain ⟨g_1, h⟩ := pm_gs h
  refine pr_iald dX4_differsBy_5 lc_90 rfl g_1 ?_
  refine pr_iconst dX4_differsBy_6 ?_
  refine pr_icmp_ne (tgt := 12) dX4_differsBy_7 rfl (wr_eq (by decide) (by decide)) (by decide) (fun c_2 => ?_) (fun c_2 => ?_)
  · have h := pm_ng c_2 h
    refine pr_aload_n dX4_differsBy_12 rfl ?_
    refine pr_getR dX4_differsBy_13 lk_X4_9 lc_89 rfl ?_
    refine pr_iload_n dX4_differsBy_16 rfl ?_
    obtain ⟨g_3, h⟩ := pm_gs h
    refine pr_iald dX4_differsBy_17 lc_90 rfl g_3 ?_
    refine pr_aload_n dX4_differsBy_18 rfl ?_
    refine pr_getR dX4_differsBy_19 lk_X4_15 lc_89 rfl ?_
    refine pr_getR dX4_differsBy_22 lk_X4_35 lc_26 rfl ?_
    refine pr_iload_n dX4_differsBy_25 rfl ?_
    refine pr_iload_n dX4_differsBy_26 rfl ?_
    refine pr_iload_n dX4_differsBy_27 rfl ?_
    obtain ⟨q4, e5, h⟩ := pm_bs h
    refine pr_callV (As := [pv_i x1, pv_i x2, pv_i x3]) (S := [pv_i (σ 90 (Int.toNat (wr x3)))]) (t := 27) dX4_differsBy_28 mk_X4_48 lc_27 (ci := 2) (q := (RX2, TX2, 2)) rfl rfl rfl rfl (Nat.le_of_ble_eq_true rfl) (by decide) (by decide) (Or.inl rfl) (tmX2_groupMark (Or.inl rfl) e5) ?_
    refine pr_isub dX4_differsBy_31 ?_
    refine pr_mabs dX4_differsBy_32 mm_X4_51 (by decide) (Nat.le_of_ble_eq_true rfl) ?_
    have h := Option.some.inj h
    subst h
    exact pr_iret dX4_differsBy_35 rfl
  · have h := pm_pos c_2 h
    refine pr_iconst dX4_differsBy_10 ?_
    have h := Option.some.inj h
    subst h
    exact pr_iret dX4_differsBy_11 rfl
def bdX4_liesBy_3 (y1 : Int) (y2 : Int) (y3 : Int) (σ : pm_M) (z4 : Int) : Option (((Int) ⊕ (Int)) ⊕ (Int)) :=
  if 6 ≤ (wr z4) then (some (.inl (.inr z4))) else ((fX4_differsBy y1 y2 z4 σ).bind fun q2 => if (wr q2) ≤ (wr y3) then (some (.inr (z4 + 1))) else (some (.inl (.inl z4))))
set_option maxHeartbeats 4000000 in
set_option maxRecDepth 100000 in
theorem tbX4_liesBy_3 {lay0 lay' : List pm_S} {r : Option pm_V} {σ' : pm_M} (y1 : Int) (y2 : Int) (y3 : Int) (σ : pm_M) : ∀ (a : Int) (e : ((Int) ⊕ (Int)) ⊕ (Int)), (fun a => bdX4_liesBy_3 y1 y2 y3 σ a) a = some e → (∀ a, e = .inr a → (fun a => pm_J mX4_liesBy 2 46 lay0 r lay' σ' 3 [some (pv_r 89), some (pv_i y1), some (pv_i y2), some (pv_i y3), some (pv_i a)] [] LAYC σ) a) → (∀ a, e = .inl a → (fun a => match a with | .inl a => pm_J mX4_liesBy 2 46 lay0 r lay' σ' 22 [none, none, none, none, none] [] LAYC σ | .inr a => pm_J mX4_liesBy 2 46 lay0 r lay' σ' 30 [none, none, none, none, none] [] LAYC σ) a) → (fun a => pm_J mX4_liesBy 2 46 lay0 r lay' σ' 3 [some (pv_r 89), some (pv_i y1), some (pv_i y2), some (pv_i y3), some (pv_i a)] [] LAYC σ) a := by
  intro z4 e h hc hx
  have h : bdX4_liesBy_3 y1 y2 y3 σ z4 = some e := h
  unfold bdX4_liesBy_3 at h
  show pm_J mX4_liesBy 2 46 lay0 r lay' σ' 3 [some (pv_r 89), some (pv_i y1), some (pv_i y2), some (pv_i y3), some (pv_i z4)] [] LAYC σ
  refine pr_iload dX4_liesBy_3 rfl ?_
  refine pr_bipush dX4_liesBy_5 (by decide) ?_
  refine pr_icmp_ge (tgt := 30) dX4_liesBy_7 rfl (wr_eq (by decide) (by decide)) (by decide) (fun c_1 => ?_) (fun c_1 => ?_)
  · have h := pm_pos c_1 h
    refine pr_weak (L2 := [none, none, none, none, none]) ⟨Or.inl rfl, Or.inl rfl, Or.inl rfl, Or.inl rfl, Or.inl rfl, trivial⟩ ?_
    exact hx (.inr z4) (Option.some.inj h).symm
  · have h := pm_ng c_1 h
    refine pr_aload_n dX4_liesBy_10 rfl ?_
    refine pr_iload_n dX4_liesBy_11 rfl ?_
    refine pr_iload_n dX4_liesBy_12 rfl ?_
    refine pr_iload dX4_liesBy_13 rfl ?_
    obtain ⟨q2, e3, h⟩ := pm_bs h
    refine pr_callV (As := [pv_i y1, pv_i y2, pv_i z4]) (S := []) (t := 89) dX4_liesBy_15 mk_X4_44 lc_89 (ci := 4) (q := (RX4, TX4, 5)) rfl rfl rfl rfl (Nat.le_of_ble_eq_true rfl) (by decide) (by decide) (Or.inl rfl) (tmX4_differsBy e3) ?_
    refine pr_iload_n dX4_liesBy_18 rfl ?_
    refine pr_icmp_le (tgt := 24) dX4_liesBy_19 rfl rfl (by decide) (fun c_4 => ?_) (fun c_4 => ?_)
    · have h := pm_pos c_4 h
      refine pr_iinc dX4_liesBy_24 rfl (by decide) rfl ?_
      refine pr_goto (tgt := 3) dX4_liesBy_27 (by decide) ?_
      refine pr_weak (L2 := [some (pv_r 89), some (pv_i y1), some (pv_i y2), some (pv_i y3), some (pv_i (z4 + 1))]) ⟨Or.inr rfl, Or.inr rfl, Or.inr rfl, Or.inr rfl, Or.inr rfl, trivial⟩ ?_
      exact hc (z4 + 1) (Option.some.inj h).symm
    · have h := pm_ng c_4 h
      refine pr_weak (L2 := [none, none, none, none, none]) ⟨Or.inl rfl, Or.inl rfl, Or.inl rfl, Or.inl rfl, Or.inl rfl, trivial⟩ ?_
      exact hx (.inl z4) (Option.some.inj h).symm
def fX4_liesBy (x1 : Int) (x2 : Int) (x3 : Int) (σ : pm_M) : Option (Int) :=
  (pm_it (fun a => bdX4_liesBy_3 x1 x2 x3 σ a) pm_fuel 0).bind fun v5 => match v5 with | .inl v5 => (some 0) | .inr v5 => (some 1)
set_option maxHeartbeats 4000000 in
set_option maxRecDepth 100000 in
theorem tmX4_liesBy {x1 : Int} {x2 : Int} {x3 : Int} {σ : pm_M} {ρ : Int} (h : fX4_liesBy x1 x2 x3 σ = some ρ) : pm_C mX4_liesBy 2 46 [pv_r 89, pv_i x1, pv_i x2, pv_i x3] LAYC σ (some (pv_i ρ)) LAYC σ := by
  refine pm_C.of (by decide) rfl (Nat.le_of_ble_eq_true rfl) ?_
  show pm_J mX4_liesBy 2 46 LAYC (some (pv_i ρ)) LAYC σ 0 [some (pv_r 89), some (pv_i x1), some (pv_i x2), some (pv_i x3), none] [] LAYC σ
  unfold fX4_liesBy at h
  refine pr_iconst dX4_liesBy_0 ?_
  refine pr_istore dX4_liesBy_1 (by decide) rfl ?_
  obtain ⟨v5, e6, h⟩ := pm_bs h
  refine pr_weak (L2 := [some (pv_r 89), some (pv_i x1), some (pv_i x2), some (pv_i x3), some (pv_i 0)]) ⟨Or.inr rfl, Or.inr rfl, Or.inr rfl, Or.inr rfl, Or.inr rfl, trivial⟩ ?_
  refine pm_it_J (α := Int) (β := (Int) ⊕ (Int)) (f := fun a => bdX4_liesBy_3 x1 x2 x3 σ a) (P := fun a => pm_J mX4_liesBy 2 46 LAYC (some (pv_i ρ)) LAYC σ 3 [some (pv_r 89), some (pv_i x1), some (pv_i x2), some (pv_i x3), some (pv_i a)] [] LAYC σ) (Rx := fun a => match a with | .inl a => pm_J mX4_liesBy 2 46 LAYC (some (pv_i ρ)) LAYC σ 22 [none, none, none, none, none] [] LAYC σ | .inr a => pm_J mX4_liesBy 2 46 LAYC (some (pv_i ρ)) LAYC σ 30 [none, none, none, none, none] [] LAYC σ) (tbX4_liesBy_3 x1 x2 x3 σ) pm_fuel 0 v5 e6 ?_
  cases v5 with
  | inl v5 =>
    show pm_J mX4_liesBy 2 46 LAYC (some (pv_i ρ)) LAYC σ 22 [none, none, none, none, none] [] LAYC σ
    refine pr_iconst dX4_liesBy_22 ?_
    have h := Option.some.inj h
    subst h
    exact pr_zret dX4_liesBy_23 rfl (Or.inl rfl)
  | inr v5 =>
    show pm_J mX4_liesBy 2 46 LAYC (some (pv_i ρ)) LAYC σ 30 [none, none, none, none, none] [] LAYC σ
    refine pr_iconst dX4_liesBy_30 ?_
    have h := Option.some.inj h
    subst h
    exact pr_zret dX4_liesBy_31 rfl (Or.inr rfl)
def bdX4_countNear_18 (y1 : Int) (y3 : Int) (σ : pm_M) (z2 : Int) (z4 : Int) : Option ((Int × Int) ⊕ (Int × Int)) :=
  if 4 ≤ (wr z4) then (some (.inl (z2, z4))) else ((fX4_liesBy y3 z4 y1 σ).bind fun q3 => if (wr q3) = 0 then (some (.inr (z2, (z4 + 1)))) else ((fX2_groupSheets 15 y3 z4 σ).bind fun q6 => some (.inr ((z2 + q6), (z4 + 1)))))
set_option maxHeartbeats 4000000 in
set_option maxRecDepth 100000 in
theorem tbX4_countNear_18 {lay0 lay' : List pm_S} {r : Option pm_V} {σ' : pm_M} (y1 : Int) (y3 : Int) (σ : pm_M) : ∀ (a : Int × Int) (e : (Int × Int) ⊕ (Int × Int)), (fun a => bdX4_countNear_18 y1 y3 σ a.1 a.2) a = some e → (∀ a, e = .inr a → (fun a => pm_J mX4_countNear 3 70 lay0 r lay' σ' 18 [some (pv_r 89), some (pv_i y1), some (pv_i a.1), some (pv_i y3), some (pv_i a.2)] [] LAYC σ) a) → (∀ a, e = .inl a → (fun a => pm_J mX4_countNear 3 70 lay0 r lay' σ' 57 [some (pv_r 89), some (pv_i y1), some (pv_i a.1), some (pv_i y3), none] [] LAYC σ) a) → (fun a => pm_J mX4_countNear 3 70 lay0 r lay' σ' 18 [some (pv_r 89), some (pv_i y1), some (pv_i a.1), some (pv_i y3), some (pv_i a.2)] [] LAYC σ) a := by
  intro a e h hc hx
  obtain ⟨z2, z4⟩ := a
  have h : bdX4_countNear_18 y1 y3 σ z2 z4 = some e := h
  unfold bdX4_countNear_18 at h
  show pm_J mX4_countNear 3 70 lay0 r lay' σ' 18 [some (pv_r 89), some (pv_i y1), some (pv_i z2), some (pv_i y3), some (pv_i z4)] [] LAYC σ
  refine pr_iload dX4_countNear_18 rfl ?_
  refine pr_iconst dX4_countNear_20 ?_
  refine pr_icmp_ge (tgt := 57) dX4_countNear_21 rfl (wr_eq (by decide) (by decide)) (by decide) (fun c_2 => ?_) (fun c_2 => ?_)
  · have h := pm_pos c_2 h
    refine pr_weak (L2 := [some (pv_r 89), some (pv_i y1), some (pv_i z2), some (pv_i y3), none]) ⟨Or.inr rfl, Or.inr rfl, Or.inr rfl, Or.inr rfl, Or.inl rfl, trivial⟩ ?_
    exact hx (z2, z4) (Option.some.inj h).symm
  · have h := pm_ng c_2 h
    refine pr_aload_n dX4_countNear_24 rfl ?_
    refine pr_iload_n dX4_countNear_25 rfl ?_
    refine pr_iload dX4_countNear_26 rfl ?_
    refine pr_iload_n dX4_countNear_28 rfl ?_
    obtain ⟨q3, e4, h⟩ := pm_bs h
    refine pr_callV (As := [pv_i y3, pv_i z4, pv_i y1]) (S := []) (t := 89) dX4_countNear_29 mk_X4_31 lc_89 (ci := 4) (q := (RX4, TX4, 5)) rfl rfl rfl rfl (Nat.le_of_ble_eq_true rfl) (by decide) (by decide) (Or.inl rfl) (tmX4_liesBy e4) ?_
    refine pr_if_eq (tgt := 51) dX4_countNear_32 rfl (by decide) (fun c_5 => ?_) (fun c_5 => ?_)
    · have h := pm_pos c_5 h
      refine pr_iinc dX4_countNear_51 rfl (by decide) rfl ?_
      refine pr_goto (tgt := 18) dX4_countNear_54 (by decide) ?_
      refine pr_weak (L2 := [some (pv_r 89), some (pv_i y1), some (pv_i z2), some (pv_i y3), some (pv_i (z4 + 1))]) ⟨Or.inr rfl, Or.inr rfl, Or.inr rfl, Or.inr rfl, Or.inr rfl, trivial⟩ ?_
      exact hc (z2, (z4 + 1)) (Option.some.inj h).symm
    · have h := pm_ng c_5 h
      refine pr_iload_n dX4_countNear_35 rfl ?_
      refine pr_aload_n dX4_countNear_36 rfl ?_
      refine pr_getR dX4_countNear_37 lk_X4_15 lc_89 rfl ?_
      refine pr_getR dX4_countNear_40 lk_X4_35 lc_26 rfl ?_
      refine pr_iload_n dX4_countNear_43 rfl ?_
      refine pr_iload dX4_countNear_44 rfl ?_
      obtain ⟨q6, e7, h⟩ := pm_bs h
      refine pr_callV (As := [pv_i y3, pv_i z4]) (S := [pv_i z2]) (t := 27) dX4_countNear_46 mk_X4_38 lc_27 (ci := 2) (q := (RX2, TX2, 2)) rfl rfl rfl rfl (Nat.le_of_ble_eq_true rfl) (by decide) (by decide) (Or.inl rfl) (tmX2_groupSheets (Or.inl rfl) e7) ?_
      refine pr_iadd dX4_countNear_49 ?_
      refine pr_istore_n dX4_countNear_50 (by decide) rfl ?_
      refine pr_iinc dX4_countNear_51 rfl (by decide) rfl ?_
      refine pr_goto (tgt := 18) dX4_countNear_54 (by decide) ?_
      refine pr_weak (L2 := [some (pv_r 89), some (pv_i y1), some (pv_i (z2 + q6)), some (pv_i y3), some (pv_i (z4 + 1))]) ⟨Or.inr rfl, Or.inr rfl, Or.inr rfl, Or.inr rfl, Or.inr rfl, trivial⟩ ?_
      exact hc ((z2 + q6), (z4 + 1)) (Option.some.inj h).symm
def bdX4_countNear_4 (y1 : Int) (σ : pm_M) (z2 : Int) (z3 : Int) : Option ((Int × Int) ⊕ (Int × Int)) :=
  if (wr (σ 26 8)) ≤ (wr z3) then (some (.inl (z2, z3))) else ((pm_it (fun a => bdX4_countNear_18 y1 z3 σ a.1 a.2) pm_fuel (z2, 0)).bind fun v8 => some (.inr (v8.1, (z3 + 1))))
set_option maxHeartbeats 4000000 in
set_option maxRecDepth 100000 in
theorem tbX4_countNear_4 {lay0 lay' : List pm_S} {r : Option pm_V} {σ' : pm_M} (y1 : Int) (σ : pm_M) : ∀ (a : Int × Int) (e : (Int × Int) ⊕ (Int × Int)), (fun a => bdX4_countNear_4 y1 σ a.1 a.2) a = some e → (∀ a, e = .inr a → (fun a => pm_J mX4_countNear 3 70 lay0 r lay' σ' 4 [some (pv_r 89), some (pv_i y1), some (pv_i a.1), some (pv_i a.2), none] [] LAYC σ) a) → (∀ a, e = .inl a → (fun a => pm_J mX4_countNear 3 70 lay0 r lay' σ' 63 [none, none, some (pv_i a.1), none, none] [] LAYC σ) a) → (fun a => pm_J mX4_countNear 3 70 lay0 r lay' σ' 4 [some (pv_r 89), some (pv_i y1), some (pv_i a.1), some (pv_i a.2), none] [] LAYC σ) a := by
  intro a e h hc hx
  obtain ⟨z2, z3⟩ := a
  have h : bdX4_countNear_4 y1 σ z2 z3 = some e := h
  unfold bdX4_countNear_4 at h
  show pm_J mX4_countNear 3 70 lay0 r lay' σ' 4 [some (pv_r 89), some (pv_i y1), some (pv_i z2), some (pv_i z3), none] [] LAYC σ
  refine pr_iload_n dX4_countNear_4 rfl ?_
  refine pr_aload_n dX4_countNear_5 rfl ?_
  refine pr_getR dX4_countNear_6 lk_X4_15 lc_89 rfl ?_
  refine pr_getI dX4_countNear_9 lk_X4_25 lc_26 rfl ?_
  refine pr_icmp_ge (tgt := 63) dX4_countNear_12 rfl rfl (by decide) (fun c_1 => ?_) (fun c_1 => ?_)
  · have h := pm_pos c_1 h
    refine pr_weak (L2 := [none, none, some (pv_i z2), none, none]) ⟨Or.inl rfl, Or.inl rfl, Or.inr rfl, Or.inl rfl, Or.inl rfl, trivial⟩ ?_
    exact hx (z2, z3) (Option.some.inj h).symm
  · have h := pm_ng c_1 h
    refine pr_iconst dX4_countNear_15 ?_
    refine pr_istore dX4_countNear_16 (by decide) rfl ?_
    obtain ⟨v8, e9, h⟩ := pm_bs h
    refine pr_weak (L2 := [some (pv_r 89), some (pv_i y1), some (pv_i z2), some (pv_i z3), some (pv_i 0)]) ⟨Or.inr rfl, Or.inr rfl, Or.inr rfl, Or.inr rfl, Or.inr rfl, trivial⟩ ?_
    refine pm_it_J (α := Int × Int) (β := Int × Int) (f := fun a => bdX4_countNear_18 y1 z3 σ a.1 a.2) (P := fun a => pm_J mX4_countNear 3 70 lay0 r lay' σ' 18 [some (pv_r 89), some (pv_i y1), some (pv_i a.1), some (pv_i z3), some (pv_i a.2)] [] LAYC σ) (Rx := fun a => pm_J mX4_countNear 3 70 lay0 r lay' σ' 57 [some (pv_r 89), some (pv_i y1), some (pv_i a.1), some (pv_i z3), none] [] LAYC σ) (tbX4_countNear_18 y1 z3 σ) pm_fuel (z2, 0) v8 e9 ?_
    show pm_J mX4_countNear 3 70 lay0 r lay' σ' 57 [some (pv_r 89), some (pv_i y1), some (pv_i v8.1), some (pv_i z3), none] [] LAYC σ
    refine pr_iinc dX4_countNear_57 rfl (by decide) rfl ?_
    refine pr_goto (tgt := 4) dX4_countNear_60 (by decide) ?_
    refine pr_weak (L2 := [some (pv_r 89), some (pv_i y1), some (pv_i v8.1), some (pv_i (z3 + 1)), none]) ⟨Or.inr rfl, Or.inr rfl, Or.inr rfl, Or.inr rfl, Or.inl rfl, trivial⟩ ?_
    exact hc (v8.1, (z3 + 1)) (Option.some.inj h).symm
def fX4_countNear (x1 : Int) (σ : pm_M) : Option (Int) :=
  (pm_it (fun a => bdX4_countNear_4 x1 σ a.1 a.2) pm_fuel (0, 0)).bind fun v10 => some v10.1
set_option maxHeartbeats 4000000 in
set_option maxRecDepth 100000 in
theorem tmX4_countNear {x1 : Int} {σ : pm_M} {ρ : Int} (h : fX4_countNear x1 σ = some ρ) : pm_C mX4_countNear 3 70 [pv_r 89, pv_i x1] LAYC σ (some (pv_i ρ)) LAYC σ := by
  refine pm_C.of (by decide) rfl (Nat.le_of_ble_eq_true rfl) ?_
  show pm_J mX4_countNear 3 70 LAYC (some (pv_i ρ)) LAYC σ 0 [some (pv_r 89), some (pv_i x1), none, none, none] [] LAYC σ
  unfold fX4_countNear at h
  refine pr_iconst dX4_countNear_0 ?_
  refine pr_istore_n dX4_countNear_1 (by decide) rfl ?_
  refine pr_iconst dX4_countNear_2 ?_
  refine pr_istore_n dX4_countNear_3 (by decide) rfl ?_
  obtain ⟨v10, e11, h⟩ := pm_bs h
  refine pr_weak (L2 := [some (pv_r 89), some (pv_i x1), some (pv_i 0), some (pv_i 0), none]) ⟨Or.inr rfl, Or.inr rfl, Or.inr rfl, Or.inr rfl, Or.inl rfl, trivial⟩ ?_
  refine pm_it_J (α := Int × Int) (β := Int × Int) (f := fun a => bdX4_countNear_4 x1 σ a.1 a.2) (P := fun a => pm_J mX4_countNear 3 70 LAYC (some (pv_i ρ)) LAYC σ 4 [some (pv_r 89), some (pv_i x1), some (pv_i a.1), some (pv_i a.2), none] [] LAYC σ) (Rx := fun a => pm_J mX4_countNear 3 70 LAYC (some (pv_i ρ)) LAYC σ 63 [none, none, some (pv_i a.1), none, none] [] LAYC σ) (tbX4_countNear_4 x1 σ) pm_fuel (0, 0) v10 e11 ?_
  show pm_J mX4_countNear 3 70 LAYC (some (pv_i ρ)) LAYC σ 63 [none, none, some (pv_i v10.1), none, none] [] LAYC σ
  refine pr_iload_n dX4_countNear_63 rfl ?_
  have h := Option.some.inj h
  subst h
  exact pr_iret dX4_countNear_64 rfl
def bdX4_nearnessOf_5 (y1 : Int) (y2 : Int) (σ : pm_M) (z3 : Int) (z4 : Int) : Option ((Int × Int) ⊕ (Int × Int)) :=
  if 6 ≤ (wr z4) then (some (.inl (z3, z4))) else ((fX4_differsBy y1 y2 z4 σ).bind fun q2 => some (.inr ((z3 + q2), (z4 + 1))))
set_option maxHeartbeats 4000000 in
set_option maxRecDepth 100000 in
theorem tbX4_nearnessOf_5 {lay0 lay' : List pm_S} {r : Option pm_V} {σ' : pm_M} (y1 : Int) (y2 : Int) (σ : pm_M) : ∀ (a : Int × Int) (e : (Int × Int) ⊕ (Int × Int)), (fun a => bdX4_nearnessOf_5 y1 y2 σ a.1 a.2) a = some e → (∀ a, e = .inr a → (fun a => pm_J mX4_nearnessOf 2 46 lay0 r lay' σ' 5 [some (pv_r 89), some (pv_i y1), some (pv_i y2), some (pv_i a.1), some (pv_i a.2)] [] LAYC σ) a) → (∀ a, e = .inl a → (fun a => pm_J mX4_nearnessOf 2 46 lay0 r lay' σ' 29 [none, none, none, some (pv_i a.1), none] [] LAYC σ) a) → (fun a => pm_J mX4_nearnessOf 2 46 lay0 r lay' σ' 5 [some (pv_r 89), some (pv_i y1), some (pv_i y2), some (pv_i a.1), some (pv_i a.2)] [] LAYC σ) a := by
  intro a e h hc hx
  obtain ⟨z3, z4⟩ := a
  have h : bdX4_nearnessOf_5 y1 y2 σ z3 z4 = some e := h
  unfold bdX4_nearnessOf_5 at h
  show pm_J mX4_nearnessOf 2 46 lay0 r lay' σ' 5 [some (pv_r 89), some (pv_i y1), some (pv_i y2), some (pv_i z3), some (pv_i z4)] [] LAYC σ
  refine pr_iload dX4_nearnessOf_5 rfl ?_
  refine pr_bipush dX4_nearnessOf_7 (by decide) ?_
  refine pr_icmp_ge (tgt := 29) dX4_nearnessOf_9 rfl (wr_eq (by decide) (by decide)) (by decide) (fun c_1 => ?_) (fun c_1 => ?_)
  · have h := pm_pos c_1 h
    refine pr_weak (L2 := [none, none, none, some (pv_i z3), none]) ⟨Or.inl rfl, Or.inl rfl, Or.inl rfl, Or.inr rfl, Or.inl rfl, trivial⟩ ?_
    exact hx (z3, z4) (Option.some.inj h).symm
  · have h := pm_ng c_1 h
    refine pr_iload_n dX4_nearnessOf_12 rfl ?_
    refine pr_aload_n dX4_nearnessOf_13 rfl ?_
    refine pr_iload_n dX4_nearnessOf_14 rfl ?_
    refine pr_iload_n dX4_nearnessOf_15 rfl ?_
    refine pr_iload dX4_nearnessOf_16 rfl ?_
    obtain ⟨q2, e3, h⟩ := pm_bs h
    refine pr_callV (As := [pv_i y1, pv_i y2, pv_i z4]) (S := [pv_i z3]) (t := 89) dX4_nearnessOf_18 mk_X4_44 lc_89 (ci := 4) (q := (RX4, TX4, 5)) rfl rfl rfl rfl (Nat.le_of_ble_eq_true rfl) (by decide) (by decide) (Or.inl rfl) (tmX4_differsBy e3) ?_
    refine pr_iadd dX4_nearnessOf_21 ?_
    refine pr_istore_n dX4_nearnessOf_22 (by decide) rfl ?_
    refine pr_iinc dX4_nearnessOf_23 rfl (by decide) rfl ?_
    refine pr_goto (tgt := 5) dX4_nearnessOf_26 (by decide) ?_
    refine pr_weak (L2 := [some (pv_r 89), some (pv_i y1), some (pv_i y2), some (pv_i (z3 + q2)), some (pv_i (z4 + 1))]) ⟨Or.inr rfl, Or.inr rfl, Or.inr rfl, Or.inr rfl, Or.inr rfl, trivial⟩ ?_
    exact hc ((z3 + q2), (z4 + 1)) (Option.some.inj h).symm
def fX4_nearnessOf (x1 : Int) (x2 : Int) (σ : pm_M) : Option (Int) :=
  (pm_it (fun a => bdX4_nearnessOf_5 x1 x2 σ a.1 a.2) pm_fuel (0, 0)).bind fun v4 => some v4.1
set_option maxHeartbeats 4000000 in
set_option maxRecDepth 100000 in
theorem tmX4_nearnessOf {x1 : Int} {x2 : Int} {σ : pm_M} {ρ : Int} (h : fX4_nearnessOf x1 x2 σ = some ρ) : pm_C mX4_nearnessOf 2 46 [pv_r 89, pv_i x1, pv_i x2] LAYC σ (some (pv_i ρ)) LAYC σ := by
  refine pm_C.of (by decide) rfl (Nat.le_of_ble_eq_true rfl) ?_
  show pm_J mX4_nearnessOf 2 46 LAYC (some (pv_i ρ)) LAYC σ 0 [some (pv_r 89), some (pv_i x1), some (pv_i x2), none, none] [] LAYC σ
  unfold fX4_nearnessOf at h
  refine pr_iconst dX4_nearnessOf_0 ?_
  refine pr_istore_n dX4_nearnessOf_1 (by decide) rfl ?_
  refine pr_iconst dX4_nearnessOf_2 ?_
  refine pr_istore dX4_nearnessOf_3 (by decide) rfl ?_
  obtain ⟨v4, e5, h⟩ := pm_bs h
  refine pr_weak (L2 := [some (pv_r 89), some (pv_i x1), some (pv_i x2), some (pv_i 0), some (pv_i 0)]) ⟨Or.inr rfl, Or.inr rfl, Or.inr rfl, Or.inr rfl, Or.inr rfl, trivial⟩ ?_
  refine pm_it_J (α := Int × Int) (β := Int × Int) (f := fun a => bdX4_nearnessOf_5 x1 x2 σ a.1 a.2) (P := fun a => pm_J mX4_nearnessOf 2 46 LAYC (some (pv_i ρ)) LAYC σ 5 [some (pv_r 89), some (pv_i x1), some (pv_i x2), some (pv_i a.1), some (pv_i a.2)] [] LAYC σ) (Rx := fun a => pm_J mX4_nearnessOf 2 46 LAYC (some (pv_i ρ)) LAYC σ 29 [none, none, none, some (pv_i a.1), none] [] LAYC σ) (tbX4_nearnessOf_5 x1 x2 σ) pm_fuel (0, 0) v4 e5 ?_
  show pm_J mX4_nearnessOf 2 46 LAYC (some (pv_i ρ)) LAYC σ 29 [none, none, none, some (pv_i v4.1), none] [] LAYC σ
  refine pr_iload_n dX4_nearnessOf_29 rfl ?_
  have h := Option.some.inj h
  subst h
  exact pr_iret dX4_nearnessOf_30 rfl
def fX4_compare (x1 : Int) (x2 : Int) (σ : pm_M) : Option (pm_M) :=
  (fX4_nearnessOf x1 x2 σ).bind fun q1 => if (wr (σ 89 4)) ≤ (wr q1) then (some σ) else ((fX2_groupFirst 15 x1 x2 (pm_up (pm_up σ 89 4 q1) 89 2 x1)).bind fun q4 => some (pm_up (pm_up (pm_up σ 89 4 q1) 89 2 x1) 89 3 q4))
set_option maxHeartbeats 4000000 in
set_option maxRecDepth 100000 in
theorem tmX4_compare {x1 : Int} {x2 : Int} {σ : pm_M} {ρ : pm_M} (h : fX4_compare x1 x2 σ = some ρ) : pm_C mX4_compare 3 70 [pv_r 89, pv_i x1, pv_i x2] LAYC σ none LAYC ρ := by
  refine pm_C.of (by decide) rfl (Nat.le_of_ble_eq_true rfl) ?_
  show pm_J mX4_compare 3 70 LAYC none LAYC ρ 0 [some (pv_r 89), some (pv_i x1), some (pv_i x2), none] [] LAYC σ
  unfold fX4_compare at h
  refine pr_aload_n dX4_compare_0 rfl ?_
  refine pr_iload_n dX4_compare_1 rfl ?_
  refine pr_iload_n dX4_compare_2 rfl ?_
  obtain ⟨q1, e2, h⟩ := pm_bs h
  refine pr_callV (As := [pv_i x1, pv_i x2]) (S := []) (t := 89) dX4_compare_3 mk_X4_64 lc_89 (ci := 4) (q := (RX4, TX4, 5)) rfl rfl rfl rfl (Nat.le_of_ble_eq_true rfl) (by decide) (by decide) (Or.inl rfl) (tmX4_nearnessOf e2) ?_
  refine pr_istore_n dX4_compare_6 (by decide) rfl ?_
  refine pr_iload_n dX4_compare_7 rfl ?_
  refine pr_aload_n dX4_compare_8 rfl ?_
  refine pr_getI dX4_compare_9 lk_X4_57 lc_89 rfl ?_
  refine pr_icmp_ge (tgt := 41) dX4_compare_12 rfl rfl (by decide) (fun c_3 => ?_) (fun c_3 => ?_)
  · have h := pm_pos c_3 h
    have h := Option.some.inj h
    subst h
    exact pr_vret dX4_compare_41 rfl
  · have h := pm_ng c_3 h
    refine pr_aload_n dX4_compare_15 rfl ?_
    refine pr_iload_n dX4_compare_16 rfl ?_
    refine pr_putI dX4_compare_17 lp_X4_57 lc_89 rfl ?_
    refine pr_aload_n dX4_compare_20 rfl ?_
    refine pr_iload_n dX4_compare_21 rfl ?_
    refine pr_putI dX4_compare_22 lp_X4_67 lc_89 rfl ?_
    refine pr_aload_n dX4_compare_25 rfl ?_
    refine pr_aload_n dX4_compare_26 rfl ?_
    refine pr_getR dX4_compare_27 lk_X4_15 lc_89 rfl ?_
    refine pr_getR dX4_compare_30 lk_X4_35 lc_26 rfl ?_
    refine pr_iload_n dX4_compare_33 rfl ?_
    refine pr_iload_n dX4_compare_34 rfl ?_
    obtain ⟨q4, e5, h⟩ := pm_bs h
    refine pr_callV (As := [pv_i x1, pv_i x2]) (S := [pv_r 89]) (t := 27) dX4_compare_35 mk_X4_70 lc_27 (ci := 2) (q := (RX2, TX2, 2)) rfl rfl rfl rfl (Nat.le_of_ble_eq_true rfl) (by decide) (by decide) (Or.inl rfl) (tmX2_groupFirst (Or.inl rfl) e5) ?_
    refine pr_putI dX4_compare_38 lp_X4_73 lc_89 rfl ?_
    have h := Option.some.inj h
    subst h
    exact pr_vret dX4_compare_41 rfl
def bdX4_findNearest_22 (y1 : Int) (z2 : Int) (σ : pm_M) : Option ((Int × pm_M) ⊕ (Int × pm_M)) :=
  if 4 ≤ (wr z2) then (some (.inl (z2, σ))) else ((fX2_groupSheets 15 y1 z2 σ).bind fun q3 => if (wr q3) ≤ 0 then (some (.inr ((z2 + 1), σ))) else ((fX4_compare y1 z2 σ).bind fun q6 => some (.inr ((z2 + 1), q6))))
set_option maxHeartbeats 4000000 in
set_option maxRecDepth 100000 in
theorem tbX4_findNearest_22 {lay0 lay' : List pm_S} {r : Option pm_V} {σ' : pm_M} (y1 : Int) : ∀ (a : Int × pm_M) (e : (Int × pm_M) ⊕ (Int × pm_M)), (fun a => bdX4_findNearest_22 y1 a.1 a.2) a = some e → (∀ a, e = .inr a → (fun a => pm_J mX4_findNearest 4 93 lay0 r lay' σ' 22 [some (pv_r 89), some (pv_i y1), some (pv_i a.1)] [] LAYC a.2) a) → (∀ a, e = .inl a → (fun a => pm_J mX4_findNearest 4 93 lay0 r lay' σ' 54 [some (pv_r 89), some (pv_i y1), none] [] LAYC a.2) a) → (fun a => pm_J mX4_findNearest 4 93 lay0 r lay' σ' 22 [some (pv_r 89), some (pv_i y1), some (pv_i a.1)] [] LAYC a.2) a := by
  intro a e h hc hx
  obtain ⟨z2, σ⟩ := a
  have h : bdX4_findNearest_22 y1 z2 σ = some e := h
  unfold bdX4_findNearest_22 at h
  show pm_J mX4_findNearest 4 93 lay0 r lay' σ' 22 [some (pv_r 89), some (pv_i y1), some (pv_i z2)] [] LAYC σ
  refine pr_iload_n dX4_findNearest_22 rfl ?_
  refine pr_iconst dX4_findNearest_23 ?_
  refine pr_icmp_ge (tgt := 54) dX4_findNearest_24 rfl (wr_eq (by decide) (by decide)) (by decide) (fun c_2 => ?_) (fun c_2 => ?_)
  · have h := pm_pos c_2 h
    refine pr_weak (L2 := [some (pv_r 89), some (pv_i y1), none]) ⟨Or.inr rfl, Or.inr rfl, Or.inl rfl, trivial⟩ ?_
    exact hx (z2, σ) (Option.some.inj h).symm
  · have h := pm_ng c_2 h
    refine pr_aload_n dX4_findNearest_27 rfl ?_
    refine pr_getR dX4_findNearest_28 lk_X4_15 lc_89 rfl ?_
    refine pr_getR dX4_findNearest_31 lk_X4_35 lc_26 rfl ?_
    refine pr_iload_n dX4_findNearest_34 rfl ?_
    refine pr_iload_n dX4_findNearest_35 rfl ?_
    obtain ⟨q3, e4, h⟩ := pm_bs h
    refine pr_callV (As := [pv_i y1, pv_i z2]) (S := []) (t := 27) dX4_findNearest_36 mk_X4_38 lc_27 (ci := 2) (q := (RX2, TX2, 2)) rfl rfl rfl rfl (Nat.le_of_ble_eq_true rfl) (by decide) (by decide) (Or.inl rfl) (tmX2_groupSheets (Or.inl rfl) e4) ?_
    refine pr_if_le (tgt := 48) dX4_findNearest_39 rfl (by decide) (fun c_5 => ?_) (fun c_5 => ?_)
    · have h := pm_pos c_5 h
      refine pr_iinc dX4_findNearest_48 rfl (by decide) rfl ?_
      refine pr_goto (tgt := 22) dX4_findNearest_51 (by decide) ?_
      refine pr_weak (L2 := [some (pv_r 89), some (pv_i y1), some (pv_i (z2 + 1))]) ⟨Or.inr rfl, Or.inr rfl, Or.inr rfl, trivial⟩ ?_
      exact hc ((z2 + 1), σ) (Option.some.inj h).symm
    · have h := pm_ng c_5 h
      refine pr_aload_n dX4_findNearest_42 rfl ?_
      refine pr_iload_n dX4_findNearest_43 rfl ?_
      refine pr_iload_n dX4_findNearest_44 rfl ?_
      obtain ⟨q6, e7, h⟩ := pm_bs h
      refine pr_callV (As := [pv_i y1, pv_i z2]) (S := []) (t := 89) dX4_findNearest_45 mk_X4_60 lc_89 (ci := 4) (q := (RX4, TX4, 5)) rfl rfl rfl rfl (Nat.le_of_ble_eq_true rfl) (by decide) (by decide) (Or.inl rfl) (tmX4_compare e7) ?_
      refine pr_iinc dX4_findNearest_48 rfl (by decide) rfl ?_
      refine pr_goto (tgt := 22) dX4_findNearest_51 (by decide) ?_
      refine pr_weak (L2 := [some (pv_r 89), some (pv_i y1), some (pv_i (z2 + 1))]) ⟨Or.inr rfl, Or.inr rfl, Or.inr rfl, trivial⟩ ?_
      exact hc ((z2 + 1), q6) (Option.some.inj h).symm
def bdX4_findNearest_9 (z1 : Int) (σ : pm_M) : Option ((Int × pm_M) ⊕ (Int × pm_M)) :=
  if (wr (σ 26 8)) ≤ (wr z1) then (some (.inl (z1, σ))) else ((pm_it (fun a => bdX4_findNearest_22 z1 a.1 a.2) pm_fuel (0, σ)).bind fun v8 => some (.inr ((z1 + 1), v8.2)))
set_option maxHeartbeats 4000000 in
set_option maxRecDepth 100000 in
theorem tbX4_findNearest_9 {lay0 lay' : List pm_S} {r : Option pm_V} {σ' : pm_M} : ∀ (a : Int × pm_M) (e : (Int × pm_M) ⊕ (Int × pm_M)), (fun a => bdX4_findNearest_9 a.1 a.2) a = some e → (∀ a, e = .inr a → (fun a => pm_J mX4_findNearest 4 93 lay0 r lay' σ' 9 [some (pv_r 89), some (pv_i a.1), none] [] LAYC a.2) a) → (∀ a, e = .inl a → (fun a => pm_J mX4_findNearest 4 93 lay0 r lay' σ' 60 [none, none, none] [] LAYC a.2) a) → (fun a => pm_J mX4_findNearest 4 93 lay0 r lay' σ' 9 [some (pv_r 89), some (pv_i a.1), none] [] LAYC a.2) a := by
  intro a e h hc hx
  obtain ⟨z1, σ⟩ := a
  have h : bdX4_findNearest_9 z1 σ = some e := h
  unfold bdX4_findNearest_9 at h
  show pm_J mX4_findNearest 4 93 lay0 r lay' σ' 9 [some (pv_r 89), some (pv_i z1), none] [] LAYC σ
  refine pr_iload_n dX4_findNearest_9 rfl ?_
  refine pr_aload_n dX4_findNearest_10 rfl ?_
  refine pr_getR dX4_findNearest_11 lk_X4_15 lc_89 rfl ?_
  refine pr_getI dX4_findNearest_14 lk_X4_25 lc_26 rfl ?_
  refine pr_icmp_ge (tgt := 60) dX4_findNearest_17 rfl rfl (by decide) (fun c_1 => ?_) (fun c_1 => ?_)
  · have h := pm_pos c_1 h
    refine pr_weak (L2 := [none, none, none]) ⟨Or.inl rfl, Or.inl rfl, Or.inl rfl, trivial⟩ ?_
    exact hx (z1, σ) (Option.some.inj h).symm
  · have h := pm_ng c_1 h
    refine pr_iconst dX4_findNearest_20 ?_
    refine pr_istore_n dX4_findNearest_21 (by decide) rfl ?_
    obtain ⟨v8, e9, h⟩ := pm_bs h
    refine pr_weak (L2 := [some (pv_r 89), some (pv_i z1), some (pv_i 0)]) ⟨Or.inr rfl, Or.inr rfl, Or.inr rfl, trivial⟩ ?_
    refine pm_it_J (α := Int × pm_M) (β := Int × pm_M) (f := fun a => bdX4_findNearest_22 z1 a.1 a.2) (P := fun a => pm_J mX4_findNearest 4 93 lay0 r lay' σ' 22 [some (pv_r 89), some (pv_i z1), some (pv_i a.1)] [] LAYC a.2) (Rx := fun a => pm_J mX4_findNearest 4 93 lay0 r lay' σ' 54 [some (pv_r 89), some (pv_i z1), none] [] LAYC a.2) (tbX4_findNearest_22 z1) pm_fuel (0, σ) v8 e9 ?_
    show pm_J mX4_findNearest 4 93 lay0 r lay' σ' 54 [some (pv_r 89), some (pv_i z1), none] [] LAYC v8.2
    refine pr_iinc dX4_findNearest_54 rfl (by decide) rfl ?_
    refine pr_goto (tgt := 9) dX4_findNearest_57 (by decide) ?_
    refine pr_weak (L2 := [some (pv_r 89), some (pv_i (z1 + 1)), none]) ⟨Or.inr rfl, Or.inr rfl, Or.inl rfl, trivial⟩ ?_
    exact hc ((z1 + 1), v8.2) (Option.some.inj h).symm
def fX4_findNearest (σ : pm_M) : Option (pm_M) :=
  (pm_it (fun a => bdX4_findNearest_9 a.1 a.2) pm_fuel (0, (pm_up σ 89 4 1000))).bind fun v10 => some v10.2
set_option maxHeartbeats 4000000 in
set_option maxRecDepth 100000 in
theorem tmX4_findNearest {σ : pm_M} {ρ : pm_M} (h : fX4_findNearest σ = some ρ) : pm_C mX4_findNearest 4 93 [pv_r 89] LAYC σ none LAYC ρ := by
  refine pm_C.of (by decide) rfl (Nat.le_of_ble_eq_true rfl) ?_
  show pm_J mX4_findNearest 4 93 LAYC none LAYC ρ 0 [some (pv_r 89), none, none] [] LAYC σ
  unfold fX4_findNearest at h
  refine pr_aload_n dX4_findNearest_0 rfl ?_
  refine pr_sipush dX4_findNearest_1 (by decide) ?_
  refine pr_putI dX4_findNearest_4 lp_X4_57 lc_89 rfl ?_
  refine pr_iconst dX4_findNearest_7 ?_
  refine pr_istore_n dX4_findNearest_8 (by decide) rfl ?_
  obtain ⟨v10, e11, h⟩ := pm_bs h
  refine pr_weak (L2 := [some (pv_r 89), some (pv_i 0), none]) ⟨Or.inr rfl, Or.inr rfl, Or.inl rfl, trivial⟩ ?_
  refine pm_it_J (α := Int × pm_M) (β := Int × pm_M) (f := fun a => bdX4_findNearest_9 a.1 a.2) (P := fun a => pm_J mX4_findNearest 4 93 LAYC none LAYC ρ 9 [some (pv_r 89), some (pv_i a.1), none] [] LAYC a.2) (Rx := fun a => pm_J mX4_findNearest 4 93 LAYC none LAYC ρ 60 [none, none, none] [] LAYC a.2) (tbX4_findNearest_9) pm_fuel (0, (pm_up σ 89 4 1000)) v10 e11 ?_
  show pm_J mX4_findNearest 4 93 LAYC none LAYC ρ 60 [none, none, none] [] LAYC v10.2
  have h := Option.some.inj h
  subst h
  exact pr_vret dX4_findNearest_60 rfl
