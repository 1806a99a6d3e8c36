def bdX4_hasNear_22 (y1 : Int) (y3 : Int) (σ : pm_M) (z4 : Int) : Option (((Int) ⊕ (Int)) ⊕ (Int)) :=
  if 4 ≤ (wr z4) then (some (.inl (.inr z4))) else ((fX2_groupSheets 15 y1 z4 σ).bind fun q4 => if (wr q4) ≤ 0 then (some (.inr (z4 + 2))) else ((fX4_liesBy y1 z4 y3 σ).bind fun q7 => if (wr q7) = 0 then (some (.inr (z4 + 2))) else (some (.inl (.inl z4)))))
set_option maxHeartbeats 4000000 in
set_option maxRecDepth 100000 in
theorem tbX4_hasNear_22 {lay0 lay' : List pm_S} {r : Option pm_V} {σ' : pm_M} (y1 : Int) (y3 : Int) (σ : pm_M) : ∀ (a : Int) (e : ((Int) ⊕ (Int)) ⊕ (Int)), (fun a => bdX4_hasNear_22 y1 y3 σ a) a = some e → (∀ a, e = .inr a → (fun a => pm_J mX4_hasNear 3 70 lay0 r lay' σ' 22 [some (pv_r 89), some (pv_i y1), none, some (pv_i y3), some (pv_i a)] [] LAYC σ) a) → (∀ a, e = .inl a → (fun a => match a with | .inl a => pm_J mX4_hasNear 3 70 lay0 r lay' σ' 55 [none, none, none, none, none] [] LAYC σ | .inr a => pm_J mX4_hasNear 3 70 lay0 r lay' σ' 63 [none, none, none, none, none] [] LAYC σ) a) → (fun a => pm_J mX4_hasNear 3 70 lay0 r lay' σ' 22 [some (pv_r 89), some (pv_i y1), none, some (pv_i y3), some (pv_i a)] [] LAYC σ) a := by
  intro z4 e h hc hx
  have h : bdX4_hasNear_22 y1 y3 σ z4 = some e := h
  unfold bdX4_hasNear_22 at h
  show pm_J mX4_hasNear 3 70 lay0 r lay' σ' 22 [some (pv_r 89), some (pv_i y1), none, some (pv_i y3), some (pv_i z4)] [] LAYC σ
  refine pr_iload dX4_hasNear_22 rfl ?_
  refine pr_iconst dX4_hasNear_24 ?_
  refine pr_icmp_ge (tgt := 63) dX4_hasNear_25 rfl (wr_eq (by decide) (by decide)) (by decide) (fun c_3 => ?_) (fun c_3 => ?_)
  · have h := pm_pos c_3 h
    refine pr_weak (L2 := [none, none, none, none, none]) ⟨Or.inl rfl, Or.inl rfl, Or.inl rfl, Or.inl rfl, Or.inl rfl, trivial⟩ ?_
    exact hx (.inr z4) (Option.some.inj h).symm
  · have h := pm_ng c_3 h
    refine pr_aload_n dX4_hasNear_28 rfl ?_
    refine pr_getR dX4_hasNear_29 lk_X4_15 lc_89 rfl ?_
    refine pr_getR dX4_hasNear_32 lk_X4_35 lc_26 rfl ?_
    refine pr_iload_n dX4_hasNear_35 rfl ?_
    refine pr_iload dX4_hasNear_36 rfl ?_
    obtain ⟨q4, e5, h⟩ := pm_bs h
    refine pr_callV (As := [pv_i y1, pv_i z4]) (S := []) (t := 27) dX4_hasNear_38 mk_X4_38 lc_27 (ci := 2) (q := (RX2, TX2, 2)) rfl rfl rfl rfl (Nat.le_of_ble_eq_true rfl) (by decide) (by decide) (Or.inl rfl) (tmX2_groupSheets (Or.inl rfl) e5) ?_
    refine pr_if_le (tgt := 57) dX4_hasNear_41 rfl (by decide) (fun c_6 => ?_) (fun c_6 => ?_)
    · have h := pm_pos c_6 h
      refine pr_iinc dX4_hasNear_57 rfl (by decide) rfl ?_
      refine pr_goto (tgt := 22) dX4_hasNear_60 (by decide) ?_
      refine pr_weak (L2 := [some (pv_r 89), some (pv_i y1), none, some (pv_i y3), some (pv_i (z4 + 2))]) ⟨Or.inr rfl, Or.inr rfl, Or.inl rfl, Or.inr rfl, Or.inr rfl, trivial⟩ ?_
      exact hc (z4 + 2) (Option.some.inj h).symm
    · have h := pm_ng c_6 h
      refine pr_aload_n dX4_hasNear_44 rfl ?_
      refine pr_iload_n dX4_hasNear_45 rfl ?_
      refine pr_iload dX4_hasNear_46 rfl ?_
      refine pr_iload_n dX4_hasNear_48 rfl ?_
      obtain ⟨q7, e8, h⟩ := pm_bs h
      refine pr_callV (As := [pv_i y1, pv_i z4, pv_i y3]) (S := []) (t := 89) dX4_hasNear_49 mk_X4_31 lc_89 (ci := 4) (q := (RX4, TX4, 5)) rfl rfl rfl rfl (Nat.le_of_ble_eq_true rfl) (by decide) (by decide) (Or.inl rfl) (tmX4_liesBy e8) ?_
      refine pr_if_eq (tgt := 57) dX4_hasNear_52 rfl (by decide) (fun c_9 => ?_) (fun c_9 => ?_)
      · have h := pm_pos c_9 h
        refine pr_iinc dX4_hasNear_57 rfl (by decide) rfl ?_
        refine pr_goto (tgt := 22) dX4_hasNear_60 (by decide) ?_
        refine pr_weak (L2 := [some (pv_r 89), some (pv_i y1), none, some (pv_i y3), some (pv_i (z4 + 2))]) ⟨Or.inr rfl, Or.inr rfl, Or.inl rfl, Or.inr rfl, Or.inr rfl, trivial⟩ ?_
        exact hc (z4 + 2) (Option.some.inj h).symm
      · have h := pm_ng c_9 h
        refine pr_weak (L2 := [none, none, none, none, none]) ⟨Or.inl rfl, Or.inl rfl, Or.inl rfl, Or.inl rfl, Or.inl rfl, trivial⟩ ?_
        exact hx (.inl z4) (Option.some.inj h).symm
def fX4_hasNear (x1 : Int) (x2 : Int) (x3 : Int) (σ : pm_M) : Option (Int) :=
  pm_g (0 ≤ (wr x1) ∧ (wr x1) < 80) (if (wr (σ 30 (Int.toNat (wr x1)))) = (wr (Int.tdiv (wr x2) 2)) then ((pm_it (fun a => bdX4_hasNear_22 x1 x3 σ a) pm_fuel (Int.tmod (wr x2) 2)).bind fun v10 => match v10 with | .inl v10 => (some 1) | .inr v10 => (some 0)) else (some 0))
set_option maxHeartbeats 4000000 in
set_option maxRecDepth 100000 in
theorem tmX4_hasNear {x1 : Int} {x2 : Int} {x3 : Int} {σ : pm_M} {ρ : Int} (h : fX4_hasNear x1 x2 x3 σ = some ρ) : pm_C mX4_hasNear 3 70 [pv_r 89, pv_i x1, pv_i x2, pv_i x3] LAYC σ (some (pv_i ρ)) LAYC σ := by
  refine pm_C.of (by decide) rfl (Nat.le_of_ble_eq_true rfl) ?_
  show pm_J mX4_hasNear 3 70 LAYC (some (pv_i ρ)) LAYC σ 0 [some (pv_r 89), some (pv_i x1), some (pv_i x2), some (pv_i x3), none] [] LAYC σ
  unfold fX4_hasNear at h
  refine pr_aload_n dX4_hasNear_0 rfl ?_
  refine pr_getR dX4_hasNear_1 lk_X4_15 lc_89 rfl ?_
  refine pr_getR dX4_hasNear_4 lk_X4_82 lc_26 rfl ?_
  refine pr_iload_n dX4_hasNear_7 rfl ?_
  obtain ⟨g_1, h⟩ := pm_gs h
  refine pr_iald dX4_hasNear_8 lc_30 rfl g_1 ?_
  refine pr_iload_n dX4_hasNear_9 rfl ?_
  refine pr_iconst dX4_hasNear_10 ?_
  refine pr_idiv dX4_hasNear_11 rfl (wr_eq (by decide) (by decide)) (by decide) ?_
  refine pr_icmp_eq (tgt := 17) dX4_hasNear_12 rfl rfl (by decide) (fun c_2 => ?_) (fun c_2 => ?_)
  · have h := pm_pos c_2 h
    refine pr_iload_n dX4_hasNear_17 rfl ?_
    refine pr_iconst dX4_hasNear_18 ?_
    refine pr_irem dX4_hasNear_19 rfl (wr_eq (by decide) (by decide)) (by decide) ?_
    refine pr_istore dX4_hasNear_20 (by decide) rfl ?_
    obtain ⟨v10, e11, h⟩ := pm_bs h
    refine pr_weak (L2 := [some (pv_r 89), some (pv_i x1), none, some (pv_i x3), some (pv_i (Int.tmod (wr x2) 2))]) ⟨Or.inr rfl, Or.inr rfl, Or.inl rfl, Or.inr rfl, Or.inr rfl, trivial⟩ ?_
    refine pm_it_J (α := Int) (β := (Int) ⊕ (Int)) (f := fun a => bdX4_hasNear_22 x1 x3 σ a) (P := fun a => pm_J mX4_hasNear 3 70 LAYC (some (pv_i ρ)) LAYC σ 22 [some (pv_r 89), some (pv_i x1), none, some (pv_i x3), some (pv_i a)] [] LAYC σ) (Rx := fun a => match a with | .inl a => pm_J mX4_hasNear 3 70 LAYC (some (pv_i ρ)) LAYC σ 55 [none, none, none, none, none] [] LAYC σ | .inr a => pm_J mX4_hasNear 3 70 LAYC (some (pv_i ρ)) LAYC σ 63 [none, none, none, none, none] [] LAYC σ) (tbX4_hasNear_22 x1 x3 σ) pm_fuel (Int.tmod (wr x2) 2) v10 e11 ?_
    cases v10 with
    | inl v10 =>
      show pm_J mX4_hasNear 3 70 LAYC (some (pv_i ρ)) LAYC σ 55 [none, none, none, none, none] [] LAYC σ
      refine pr_iconst dX4_hasNear_55 ?_
      have h := Option.some.inj h
      subst h
      exact pr_zret dX4_hasNear_56 rfl (Or.inr rfl)
    | inr v10 =>
      show pm_J mX4_hasNear 3 70 LAYC (some (pv_i ρ)) LAYC σ 63 [none, none, none, none, none] [] LAYC σ
      refine pr_iconst dX4_hasNear_63 ?_
      have h := Option.some.inj h
      subst h
      exact pr_zret dX4_hasNear_64 rfl (Or.inl rfl)
  · have h := pm_ng c_2 h
    refine pr_iconst dX4_hasNear_15 ?_
    have h := Option.some.inj h
    subst h
    exact pr_zret dX4_hasNear_16 rfl (Or.inl rfl)
def bdX4_hourOf_7 (y1 : Int) (y2 : Int) (y3 : Int) (σ : pm_M) (z4 : Int) (z5 : Int) : Option (((Int × Int) ⊕ (Int × Int)) ⊕ (Int × Int)) :=
  if (wr (σ 26 8)) ≤ (wr z5) then (some (.inl (.inr (z4, z5)))) else ((fX4_hasNear z5 y1 y2 σ).bind fun q2 => if (wr q2) = 0 then (some (.inr (z4, (z5 + 1)))) else (pm_g (0 ≤ (wr z5) ∧ (wr z5) < 80) (if (wr y3) = 0 then (some (.inl (.inl ((σ 32 (Int.toNat (wr z5))), z5)))) else (some (.inr ((σ 32 (Int.toNat (wr z5))), (z5 + 1)))))))
set_option maxHeartbeats 4000000 in
set_option maxRecDepth 100000 in
theorem tbX4_hourOf_7 {lay0 lay' : List pm_S} {r : Option pm_V} {σ' : pm_M} (y1 : Int) (y2 : Int) (y3 : Int) (σ : pm_M) : ∀ (a : Int × Int) (e : ((Int × Int) ⊕ (Int × Int)) ⊕ (Int × Int)), (fun a => bdX4_hourOf_7 y1 y2 y3 σ a.1 a.2) a = some e → (∀ a, e = .inr a → (fun a => pm_J mX4_hourOf 4 94 lay0 r lay' σ' 7 [some (pv_r 89), some (pv_i y1), some (pv_i y2), some (pv_i y3), some (pv_i a.1), some (pv_i a.2)] [] LAYC σ) a) → (∀ a, e = .inl a → (fun a => match a with | .inl a => pm_J mX4_hourOf 4 94 lay0 r lay' σ' 46 [none, none, none, none, some (pv_i a.1), none] [] LAYC σ | .inr a => pm_J mX4_hourOf 4 94 lay0 r lay' σ' 55 [none, none, none, none, some (pv_i a.1), none] [] LAYC σ) a) → (fun a => pm_J mX4_hourOf 4 94 lay0 r lay' σ' 7 [some (pv_r 89), some (pv_i y1), some (pv_i y2), some (pv_i y3), some (pv_i a.1), some (pv_i a.2)] [] LAYC σ) a := by
  intro a e h hc hx
  obtain ⟨z4, z5⟩ := a
  have h : bdX4_hourOf_7 y1 y2 y3 σ z4 z5 = some e := h
  unfold bdX4_hourOf_7 at h
  show pm_J mX4_hourOf 4 94 lay0 r lay' σ' 7 [some (pv_r 89), some (pv_i y1), some (pv_i y2), some (pv_i y3), some (pv_i z4), some (pv_i z5)] [] LAYC σ
  refine pr_iload dX4_hourOf_7 rfl ?_
  refine pr_aload_n dX4_hourOf_9 rfl ?_
  refine pr_getR dX4_hourOf_10 lk_X4_15 lc_89 rfl ?_
  refine pr_getI dX4_hourOf_13 lk_X4_25 lc_26 rfl ?_
  refine pr_icmp_ge (tgt := 55) dX4_hourOf_16 rfl rfl (by decide) (fun c_1 => ?_) (fun c_1 => ?_)
  · have h := pm_pos c_1 h
    refine pr_weak (L2 := [none, none, none, none, some (pv_i z4), none]) ⟨Or.inl rfl, Or.inl rfl, Or.inl rfl, Or.inl rfl, Or.inr rfl, Or.inl rfl, trivial⟩ ?_
    exact hx (.inr (z4, z5)) (Option.some.inj h).symm
  · have h := pm_ng c_1 h
    refine pr_aload_n dX4_hourOf_19 rfl ?_
    refine pr_iload dX4_hourOf_20 rfl ?_
    refine pr_iload_n dX4_hourOf_22 rfl ?_
    refine pr_iload_n dX4_hourOf_23 rfl ?_
    obtain ⟨q2, e3, h⟩ := pm_bs h
    refine pr_callV (As := [pv_i z5, pv_i y1, pv_i y2]) (S := []) (t := 89) dX4_hourOf_24 mk_X4_76 lc_89 (ci := 4) (q := (RX4, TX4, 5)) rfl rfl rfl rfl (Nat.le_of_ble_eq_true rfl) (by decide) (by decide) (Or.inl rfl) (tmX4_hasNear e3) ?_
    refine pr_if_eq (tgt := 49) dX4_hourOf_27 rfl (by decide) (fun c_4 => ?_) (fun c_4 => ?_)
    · have h := pm_pos c_4 h
      refine pr_iinc dX4_hourOf_49 rfl (by decide) rfl ?_
      refine pr_goto (tgt := 7) dX4_hourOf_52 (by decide) ?_
      refine pr_weak (L2 := [some (pv_r 89), some (pv_i y1), some (pv_i y2), some (pv_i y3), some (pv_i z4), some (pv_i (z5 + 1))]) ⟨Or.inr rfl, Or.inr rfl, Or.inr rfl, Or.inr rfl, Or.inr rfl, Or.inr rfl, trivial⟩ ?_
      exact hc (z4, (z5 + 1)) (Option.some.inj h).symm
    · have h := pm_ng c_4 h
      refine pr_aload_n dX4_hourOf_30 rfl ?_
      refine pr_getR dX4_hourOf_31 lk_X4_15 lc_89 rfl ?_
      refine pr_getR dX4_hourOf_34 lk_X4_79 lc_26 rfl ?_
      refine pr_iload dX4_hourOf_37 rfl ?_
      obtain ⟨g_5, h⟩ := pm_gs h
      refine pr_iald dX4_hourOf_39 lc_32 rfl g_5 ?_
      refine pr_istore dX4_hourOf_40 (by decide) rfl ?_
      refine pr_iload_n dX4_hourOf_42 rfl ?_
      refine pr_if_ne (tgt := 49) dX4_hourOf_43 rfl (by decide) (fun c_6 => ?_) (fun c_6 => ?_)
      · have h := pm_ng c_6 h
        refine pr_iinc dX4_hourOf_49 rfl (by decide) rfl ?_
        refine pr_goto (tgt := 7) dX4_hourOf_52 (by decide) ?_
        refine pr_weak (L2 := [some (pv_r 89), some (pv_i y1), some (pv_i y2), some (pv_i y3), some (pv_i (σ 32 (Int.toNat (wr z5)))), some (pv_i (z5 + 1))]) ⟨Or.inr rfl, Or.inr rfl, Or.inr rfl, Or.inr rfl, Or.inr rfl, Or.inr rfl, trivial⟩ ?_
        exact hc ((σ 32 (Int.toNat (wr z5))), (z5 + 1)) (Option.some.inj h).symm
      · have h := pm_pos c_6 h
        refine pr_weak (L2 := [none, none, none, none, some (pv_i (σ 32 (Int.toNat (wr z5)))), none]) ⟨Or.inl rfl, Or.inl rfl, Or.inl rfl, Or.inl rfl, Or.inr rfl, Or.inl rfl, trivial⟩ ?_
        exact hx (.inl ((σ 32 (Int.toNat (wr z5))), z5)) (Option.some.inj h).symm
def fX4_hourOf (x1 : Int) (x2 : Int) (x3 : Int) (σ : pm_M) : Option (Int) :=
  (pm_it (fun a => bdX4_hourOf_7 x1 x2 x3 σ a.1 a.2) pm_fuel ((-9), 0)).bind fun v7 => match v7 with | .inl v7 => (some v7.1) | .inr v7 => (some v7.1)
set_option maxHeartbeats 4000000 in
set_option maxRecDepth 100000 in
theorem tmX4_hourOf {x1 : Int} {x2 : Int} {x3 : Int} {σ : pm_M} {ρ : Int} (h : fX4_hourOf x1 x2 x3 σ = some ρ) : pm_C mX4_hourOf 4 94 [pv_r 89, pv_i x1, pv_i x2, pv_i x3] LAYC σ (some (pv_i ρ)) LAYC σ := by
  refine pm_C.of (by decide) rfl (Nat.le_of_ble_eq_true rfl) ?_
  show pm_J mX4_hourOf 4 94 LAYC (some (pv_i ρ)) LAYC σ 0 [some (pv_r 89), some (pv_i x1), some (pv_i x2), some (pv_i x3), none, none] [] LAYC σ
  unfold fX4_hourOf at h
  refine pr_bipush dX4_hourOf_0 (by decide) ?_
  refine pr_istore dX4_hourOf_2 (by decide) rfl ?_
  refine pr_iconst dX4_hourOf_4 ?_
  refine pr_istore dX4_hourOf_5 (by decide) rfl ?_
  obtain ⟨v7, e8, h⟩ := pm_bs h
  refine pr_weak (L2 := [some (pv_r 89), some (pv_i x1), some (pv_i x2), some (pv_i x3), some (pv_i (-9)), some (pv_i 0)]) ⟨Or.inr rfl, Or.inr rfl, Or.inr rfl, Or.inr rfl, Or.inr rfl, Or.inr rfl, trivial⟩ ?_
  refine pm_it_J (α := Int × Int) (β := (Int × Int) ⊕ (Int × Int)) (f := fun a => bdX4_hourOf_7 x1 x2 x3 σ a.1 a.2) (P := fun a => pm_J mX4_hourOf 4 94 LAYC (some (pv_i ρ)) LAYC σ 7 [some (pv_r 89), some (pv_i x1), some (pv_i x2), some (pv_i x3), some (pv_i a.1), some (pv_i a.2)] [] LAYC σ) (Rx := fun a => match a with | .inl a => pm_J mX4_hourOf 4 94 LAYC (some (pv_i ρ)) LAYC σ 46 [none, none, none, none, some (pv_i a.1), none] [] LAYC σ | .inr a => pm_J mX4_hourOf 4 94 LAYC (some (pv_i ρ)) LAYC σ 55 [none, none, none, none, some (pv_i a.1), none] [] LAYC σ) (tbX4_hourOf_7 x1 x2 x3 σ) pm_fuel ((-9), 0) v7 e8 ?_
  cases v7 with
  | inl v7 =>
    show pm_J mX4_hourOf 4 94 LAYC (some (pv_i ρ)) LAYC σ 46 [none, none, none, none, some (pv_i v7.1), none] [] LAYC σ
    refine pr_iload dX4_hourOf_46 rfl ?_
    have h := Option.some.inj h
    subst h
    exact pr_iret dX4_hourOf_48 rfl
  | inr v7 =>
    show pm_J mX4_hourOf 4 94 LAYC (some (pv_i ρ)) LAYC σ 55 [none, none, none, none, some (pv_i v7.1), none] [] LAYC σ
    refine pr_iload dX4_hourOf_55 rfl ?_
    have h := Option.some.inj h
    subst h
    exact pr_iret dX4_hourOf_57 rfl
