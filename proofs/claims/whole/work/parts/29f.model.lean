def bdX12_sizeAll_4 (z1 : Int) (z2 : Int) (σ : pm_M) : Option ((Int × Int × pm_M) ⊕ (Int × Int × pm_M)) :=
  if (wr (σ 25 (Int.toNat 752))) ≤ (wr z2) then (some (.inl (z1, z2, σ))) else (if (wr (σ 0 19)) ≤ 0 then (some (.inl (z1, z2, σ))) else ((fX12_post z2 0 σ).bind fun q3 => if (wr q3) = 2 then ((fX12_sizes z2 σ).bind fun q6 => some (.inr ((z1 + 1), (z2 + 1), q6.2))) else (some (.inr (z1, (z2 + 1), σ)))))
set_option maxHeartbeats 4000000 in
set_option maxRecDepth 100000 in
theorem tbX12_sizeAll_4 {lay0 lay' : List pm_S} {r : Option pm_V} {σ' : pm_M} : ∀ (a : Int × Int × pm_M) (e : (Int × Int × pm_M) ⊕ (Int × Int × pm_M)), (fun a => bdX12_sizeAll_4 a.1 a.2.1 a.2.2) a = some e → (∀ a, e = .inr a → (fun a => pm_J mX12_sizeAll 2 46 lay0 r lay' σ' 4 [some (pv_r 0), some (pv_i a.1), some (pv_i a.2.1), none] [] LAYM a.2.2) a) → (∀ a, e = .inl a → (fun a => pm_J mX12_sizeAll 2 46 lay0 r lay' σ' 51 [none, some (pv_i a.1), none, none] [] LAYM a.2.2) a) → (fun a => pm_J mX12_sizeAll 2 46 lay0 r lay' σ' 4 [some (pv_r 0), some (pv_i a.1), some (pv_i a.2.1), none] [] LAYM a.2.2) a := by
  intro a e h hc hx
  obtain ⟨z1, z2, σ⟩ := a
  have h : bdX12_sizeAll_4 z1 z2 σ = some e := h
  unfold bdX12_sizeAll_4 at h
  show pm_J mX12_sizeAll 2 46 lay0 r lay' σ' 4 [some (pv_r 0), some (pv_i z1), some (pv_i z2), none] [] LAYM σ
  refine pr_iload_n dX12_sizeAll_4 rfl ?_
  refine pr_aload_n dX12_sizeAll_5 rfl ?_
  refine pr_getR dX12_sizeAll_6 lk_X12_86 lm_0 rfl ?_
  refine pr_sipush dX12_sizeAll_9 (by decide) ?_
  refine pr_iald dX12_sizeAll_12 lm_25 (wr_eq (by decide) (by decide)) ⟨by decide, by decide⟩ ?_
  refine pr_icmp_ge (tgt := 51) dX12_sizeAll_13 rfl rfl (by decide) (fun c_1 => ?_) (fun c_1 => ?_)
  · have h := pm_pos c_1 h
    refine pr_weak (L2 := [none, some (pv_i z1), none, none]) ⟨Or.inl rfl, Or.inr rfl, Or.inl rfl, Or.inl rfl, trivial⟩ ?_
    exact hx (z1, z2, σ) (Option.some.inj h).symm
  · have h := pm_ng c_1 h
    refine pr_aload_n dX12_sizeAll_16 rfl ?_
    refine pr_getI dX12_sizeAll_17 lk_X12_135 lm_0 rfl ?_
    refine pr_if_le (tgt := 51) dX12_sizeAll_20 rfl (by decide) (fun c_2 => ?_) (fun c_2 => ?_)
    · have h := pm_pos c_2 h
      refine pr_weak (L2 := [none, some (pv_i z1), none, none]) ⟨Or.inl rfl, Or.inr rfl, Or.inl rfl, Or.inl rfl, trivial⟩ ?_
      exact hx (z1, z2, σ) (Option.some.inj h).symm
    · have h := pm_ng c_2 h
      refine pr_aload_n dX12_sizeAll_23 rfl ?_
      refine pr_iload_n dX12_sizeAll_24 rfl ?_
      refine pr_iconst dX12_sizeAll_25 ?_
      obtain ⟨q3, e4, h⟩ := pm_bs h
      refine pr_callV (As := [pv_i z2, pv_i 0]) (S := []) (t := 0) dX12_sizeAll_26 mk_X12_138 lm_0 (ci := 12) (q := (RX12, TX12, 36)) rfl rfl rfl rfl (Nat.le_of_ble_eq_true rfl) (by decide) (by decide) (Or.inl rfl) (tmX12_post e4) ?_
      refine pr_iconst dX12_sizeAll_29 ?_
      refine pr_icmp_eq (tgt := 36) dX12_sizeAll_30 rfl (wr_eq (by decide) (by decide)) (by decide) (fun c_5 => ?_) (fun c_5 => ?_)
      · have h := pm_pos c_5 h
        refine pr_aload_n dX12_sizeAll_36 rfl ?_
        refine pr_iload_n dX12_sizeAll_37 rfl ?_
        obtain ⟨q6, e7, h⟩ := pm_bs h
        refine pr_callV (As := [pv_i z2]) (S := []) (t := 0) dX12_sizeAll_38 mk_X12_148 lm_0 (ci := 12) (q := (RX12, TX12, 36)) rfl rfl rfl rfl (Nat.le_of_ble_eq_true rfl) (by decide) (by decide) (Or.inl rfl) (tmX12_sizes e7) ?_
        refine pr_istore_n dX12_sizeAll_41 (by decide) rfl ?_
        refine pr_iinc dX12_sizeAll_42 rfl (by decide) rfl ?_
        refine pr_iinc dX12_sizeAll_45 rfl (by decide) rfl ?_
        refine pr_goto (tgt := 4) dX12_sizeAll_48 (by decide) ?_
        refine pr_weak (L2 := [some (pv_r 0), some (pv_i (z1 + 1)), some (pv_i (z2 + 1)), none]) ⟨Or.inr rfl, Or.inr rfl, Or.inr rfl, Or.inl rfl, trivial⟩ ?_
        exact hc ((z1 + 1), (z2 + 1), q6.2) (Option.some.inj h).symm
      · have h := pm_ng c_5 h
        refine pr_goto (tgt := 45) dX12_sizeAll_33 (by decide) ?_
        refine pr_iinc dX12_sizeAll_45 rfl (by decide) rfl ?_
        refine pr_goto (tgt := 4) dX12_sizeAll_48 (by decide) ?_
        refine pr_weak (L2 := [some (pv_r 0), some (pv_i z1), some (pv_i (z2 + 1)), none]) ⟨Or.inr rfl, Or.inr rfl, Or.inr rfl, Or.inl rfl, trivial⟩ ?_
        exact hc (z1, (z2 + 1), σ) (Option.some.inj h).symm
def fX12_sizeAll (σ : pm_M) : Option (Int × pm_M) :=
  (pm_it (fun a => bdX12_sizeAll_4 a.1 a.2.1 a.2.2) pm_fuel (0, 0, σ)).bind fun v8 => some (v8.1, v8.2.2)
set_option maxHeartbeats 4000000 in
set_option maxRecDepth 100000 in
theorem tmX12_sizeAll {σ : pm_M} {ρ : Int × pm_M} (h : fX12_sizeAll σ = some ρ) : pm_C mX12_sizeAll 2 46 [pv_r 0] LAYM σ (some (pv_i ρ.1)) LAYM ρ.2 := by
  refine pm_C.of (by decide) rfl (Nat.le_of_ble_eq_true rfl) ?_
  show pm_J mX12_sizeAll 2 46 LAYM (some (pv_i ρ.1)) LAYM ρ.2 0 [some (pv_r 0), none, none, none] [] LAYM σ
  unfold fX12_sizeAll at h
  refine pr_iconst dX12_sizeAll_0 ?_
  refine pr_istore_n dX12_sizeAll_1 (by decide) rfl ?_
  refine pr_iconst dX12_sizeAll_2 ?_
  refine pr_istore_n dX12_sizeAll_3 (by decide) rfl ?_
  obtain ⟨v8, e9, h⟩ := pm_bs h
  refine pr_weak (L2 := [some (pv_r 0), some (pv_i 0), some (pv_i 0), none]) ⟨Or.inr rfl, Or.inr rfl, Or.inr rfl, Or.inl rfl, trivial⟩ ?_
  refine pm_it_J (α := Int × Int × pm_M) (β := Int × Int × pm_M) (f := fun a => bdX12_sizeAll_4 a.1 a.2.1 a.2.2) (P := fun a => pm_J mX12_sizeAll 2 46 LAYM (some (pv_i ρ.1)) LAYM ρ.2 4 [some (pv_r 0), some (pv_i a.1), some (pv_i a.2.1), none] [] LAYM a.2.2) (Rx := fun a => pm_J mX12_sizeAll 2 46 LAYM (some (pv_i ρ.1)) LAYM ρ.2 51 [none, some (pv_i a.1), none, none] [] LAYM a.2.2) (tbX12_sizeAll_4) pm_fuel (0, 0, σ) v8 e9 ?_
  show pm_J mX12_sizeAll 2 46 LAYM (some (pv_i ρ.1)) LAYM ρ.2 51 [none, some (pv_i v8.1), none, none] [] LAYM v8.2.2
  refine pr_iload_n dX12_sizeAll_51 rfl ?_
  have h := Option.some.inj h
  subst h
  exact pr_iret dX12_sizeAll_52 rfl
def jnX12_duty_18 (w1 : Int) (w2 : Int) (u0 : Int) (σ : pm_M) : Option (Int × pm_M) :=
  if (wr u0) = 0 then (pm_g (0 ≤ (wr w1) ∧ (wr w1) < 9) (pm_g (0 ≤ (wr w1) ∧ (wr w1) < 9) (some ((σ 7 (Int.toNat (wr w1))), (pm_up σ 7 (Int.toNat (wr w1)) w2))))) else ((fX12_refuse u0 σ).bind fun q7 => some (q7.1, q7.2))
set_option maxHeartbeats 4000000 in
set_option maxRecDepth 100000 in
theorem tjX12_duty_18 {lay0 : List pm_S} {w1 : Int} {w2 : Int} {u0 : Int} {σ : pm_M} {ρ : Int × pm_M} (h : jnX12_duty_18 w1 w2 u0 σ = some ρ) : pm_J mX12_duty 2 41 lay0 (some (pv_i ρ.1)) LAYM ρ.2 18 [some (pv_r 0), some (pv_i w1), some (pv_i w2), none, none] [pv_i u0] LAYM σ := by
  unfold jnX12_duty_18 at h
  refine pr_istore_n dX12_duty_18 (by decide) rfl ?_
  refine pr_iload_n dX12_duty_19 rfl ?_
  refine pr_if_eq (tgt := 29) dX12_duty_20 rfl (by decide) (fun c_4 => ?_) (fun c_4 => ?_)
  · have h := pm_pos c_4 h
    refine pr_aload_n dX12_duty_29 rfl ?_
    refine pr_getR dX12_duty_30 lk_X12_28 lm_0 rfl ?_
    refine pr_iload_n dX12_duty_33 rfl ?_
    obtain ⟨g_5, h⟩ := pm_gs h
    refine pr_iald dX12_duty_34 lm_7 rfl g_5 ?_
    refine pr_istore dX12_duty_35 (by decide) rfl ?_
    refine pr_aload_n dX12_duty_37 rfl ?_
    refine pr_getR dX12_duty_38 lk_X12_28 lm_0 rfl ?_
    refine pr_iload_n dX12_duty_41 rfl ?_
    refine pr_iload_n dX12_duty_42 rfl ?_
    obtain ⟨g_6, h⟩ := pm_gs h
    refine pr_iast dX12_duty_43 lm_7 rfl g_6 ?_
    refine pr_iload dX12_duty_44 rfl ?_
    have h := Option.some.inj h
    subst h
    exact pr_iret dX12_duty_46 rfl
  · have h := pm_ng c_4 h
    refine pr_aload_n dX12_duty_23 rfl ?_
    refine pr_iload_n dX12_duty_24 rfl ?_
    obtain ⟨q7, e8, h⟩ := pm_bs h
    refine pr_callV (As := [pv_i u0]) (S := []) (t := 0) dX12_duty_25 mk_X12_103 lm_0 (ci := 12) (q := (RX12, TX12, 36)) rfl rfl rfl rfl (Nat.le_of_ble_eq_true rfl) (by decide) (by decide) (Or.inl rfl) (tmX12_refuse e8) ?_
    have h := Option.some.inj h
    subst h
    exact pr_iret dX12_duty_28 rfl
def fX12_duty (x1 : Int) (x2 : Int) (σ : pm_M) : Option (Int × pm_M) :=
  (fX12_isWeight x1).bind fun q1 => if (wr q1) = 0 then (jnX12_duty_18 x1 x2 (-1) σ) else ((fX12_wrong x2 0 99).bind fun q9 => jnX12_duty_18 x1 x2 q9 σ)
set_option maxHeartbeats 4000000 in
set_option maxRecDepth 100000 in
theorem tmX12_duty {x1 : Int} {x2 : Int} {σ : pm_M} {ρ : Int × pm_M} (h : fX12_duty x1 x2 σ = some ρ) : pm_C mX12_duty 2 41 [pv_r 0, pv_i x1, pv_i x2] LAYM σ (some (pv_i ρ.1)) LAYM ρ.2 := by
  refine pm_C.of (by decide) rfl (Nat.le_of_ble_eq_true rfl) ?_
  show pm_J mX12_duty 2 41 LAYM (some (pv_i ρ.1)) LAYM ρ.2 0 [some (pv_r 0), some (pv_i x1), some (pv_i x2), none, none] [] LAYM σ
  unfold fX12_duty at h
  refine pr_iload_n dX12_duty_0 rfl ?_
  obtain ⟨q1, e2, h⟩ := pm_bs h
  refine pr_callS (av := [pv_i x1]) (S := []) dX12_duty_1 mk_X12_151 rfl rfl (Nat.le_of_ble_eq_true rfl) (by decide) (by decide) (Or.inl rfl) (tmX12_isWeight e2) ?_
  refine pr_if_eq (tgt := 17) dX12_duty_4 rfl (by decide) (fun c_3 => ?_) (fun c_3 => ?_)
  · have h := pm_pos c_3 h
    refine pr_iconst dX12_duty_17 ?_
    refine pr_weak (L2 := [some (pv_r 0), some (pv_i x1), some (pv_i x2), none, none]) ⟨Or.inr rfl, Or.inr rfl, Or.inr rfl, Or.inl rfl, Or.inl rfl, trivial⟩ ?_
    exact tjX12_duty_18 h
  · have h := pm_ng c_3 h
    refine pr_iload_n dX12_duty_7 rfl ?_
    refine pr_iconst dX12_duty_8 ?_
    refine pr_bipush dX12_duty_9 (by decide) ?_
    obtain ⟨q9, e10, h⟩ := pm_bs h
    refine pr_callS (av := [pv_i x2, pv_i 0, pv_i 99]) (S := []) dX12_duty_11 mk_X12_99 rfl rfl (Nat.le_of_ble_eq_true rfl) (by decide) (by decide) (Or.inl rfl) (tmX12_wrong e10) ?_
    refine pr_goto (tgt := 18) dX12_duty_14 (by decide) ?_
    refine pr_weak (L2 := [some (pv_r 0), some (pv_i x1), some (pv_i x2), none, none]) ⟨Or.inr rfl, Or.inr rfl, Or.inr rfl, Or.inl rfl, Or.inl rfl, trivial⟩ ?_
    exact tjX12_duty_18 h
def fX12_order (x1 : Int) (x2 : Int) (x3 : Int) (x4 : Int) (x5 : Int) (σ : pm_M) : Option (Int × pm_M) :=
  (fX12_isKind x1 σ).bind fun q1 => if (wr q1) = 0 then ((fX12_refuse (-1) σ).bind fun q4 => some (q4.1, q4.2)) else ((fX12_isWeight x2).bind fun q6 => if (wr q6) = 0 then ((fX12_refuse (-1) σ).bind fun q36 => some (q36.1, q36.2)) else (if (wr x3) < 1 then ((fX12_refuse (-4) σ).bind fun q10 => some (q10.1, q10.2)) else (if (wr x4) < 0 then ((fX12_refuse (-4) σ).bind fun q13 => some (q13.1, q13.2)) else (if 0 ≤ (wr x5) then (if 20 < (wr x3) then ((fX12_refuse (-6) σ).bind fun q17 => some (q17.1, q17.2)) else (if 100 < (wr x4) then ((fX12_refuse (-6) σ).bind fun q20 => some (q20.1, q20.2)) else (if 999 < (wr x5) then ((fX12_refuse (-6) σ).bind fun q23 => some (q23.1, q23.2)) else (if (wr (σ 0 17)) = 12 then ((fX12_refuse (-6) σ).bind fun q32 => some (q32.1, q32.2)) else (pm_g (0 ≤ (wr (σ 0 17)) ∧ (wr (σ 0 17)) < 12) (pm_g (0 ≤ (wr ((pm_up σ 16 (Int.toNat (wr (σ 0 17))) x1) 0 17)) ∧ (wr ((pm_up σ 16 (Int.toNat (wr (σ 0 17))) x1) 0 17)) < 12) (pm_g (0 ≤ (wr ((pm_up (pm_up σ 16 (Int.toNat (wr (σ 0 17))) x1) 17 (Int.toNat (wr ((pm_up σ 16 (Int.toNat (wr (σ 0 17))) x1) 0 17))) x2) 0 17)) ∧ (wr ((pm_up (pm_up σ 16 (Int.toNat (wr (σ 0 17))) x1) 17 (Int.toNat (wr ((pm_up σ 16 (Int.toNat (wr (σ 0 17))) x1) 0 17))) x2) 0 17)) < 12) (pm_g (0 ≤ (wr ((pm_up (pm_up (pm_up σ 16 (Int.toNat (wr (σ 0 17))) x1) 17 (Int.toNat (wr ((pm_up σ 16 (Int.toNat (wr (σ 0 17))) x1) 0 17))) x2) 18 (Int.toNat (wr ((pm_up (pm_up σ 16 (Int.toNat (wr (σ 0 17))) x1) 17 (Int.toNat (wr ((pm_up σ 16 (Int.toNat (wr (σ 0 17))) x1) 0 17))) x2) 0 17))) x3) 0 17)) ∧ (wr ((pm_up (pm_up (pm_up σ 16 (Int.toNat (wr (σ 0 17))) x1) 17 (Int.toNat (wr ((pm_up σ 16 (Int.toNat (wr (σ 0 17))) x1) 0 17))) x2) 18 (Int.toNat (wr ((pm_up (pm_up σ 16 (Int.toNat (wr (σ 0 17))) x1) 17 (Int.toNat (wr ((pm_up σ 16 (Int.toNat (wr (σ 0 17))) x1) 0 17))) x2) 0 17))) x3) 0 17)) < 12) (pm_g (0 ≤ (wr ((pm_up (pm_up (pm_up (pm_up σ 16 (Int.toNat (wr (σ 0 17))) x1) 17 (Int.toNat (wr ((pm_up σ 16 (Int.toNat (wr (σ 0 17))) x1) 0 17))) x2) 18 (Int.toNat (wr ((pm_up (pm_up σ 16 (Int.toNat (wr (σ 0 17))) x1) 17 (Int.toNat (wr ((pm_up σ 16 (Int.toNat (wr (σ 0 17))) x1) 0 17))) x2) 0 17))) x3) 19 (Int.toNat (wr ((pm_up (pm_up (pm_up σ 16 (Int.toNat (wr (σ 0 17))) x1) 17 (Int.toNat (wr ((pm_up σ 16 (Int.toNat (wr (σ 0 17))) x1) 0 17))) x2) 18 (Int.toNat (wr ((pm_up (pm_up σ 16 (Int.toNat (wr (σ 0 17))) x1) 17 (Int.toNat (wr ((pm_up σ 16 (Int.toNat (wr (σ 0 17))) x1) 0 17))) x2) 0 17))) x3) 0 17))) x4) 0 17)) ∧ (wr ((pm_up (pm_up (pm_up (pm_up σ 16 (Int.toNat (wr (σ 0 17))) x1) 17 (Int.toNat (wr ((pm_up σ 16 (Int.toNat (wr (σ 0 17))) x1) 0 17))) x2) 18 (Int.toNat (wr ((pm_up (pm_up σ 16 (Int.toNat (wr (σ 0 17))) x1) 17 (Int.toNat (wr ((pm_up σ 16 (Int.toNat (wr (σ 0 17))) x1) 0 17))) x2) 0 17))) x3) 19 (Int.toNat (wr ((pm_up (pm_up (pm_up σ 16 (Int.toNat (wr (σ 0 17))) x1) 17 (Int.toNat (wr ((pm_up σ 16 (Int.toNat (wr (σ 0 17))) x1) 0 17))) x2) 18 (Int.toNat (wr ((pm_up (pm_up σ 16 (Int.toNat (wr (σ 0 17))) x1) 17 (Int.toNat (wr ((pm_up σ 16 (Int.toNat (wr (σ 0 17))) x1) 0 17))) x2) 0 17))) x3) 0 17))) x4) 0 17)) < 12) (pm_g (0 ≤ (wr ((pm_up (pm_up (pm_up (pm_up (pm_up σ 16 (Int.toNat (wr (σ 0 17))) x1) 17 (Int.toNat (wr ((pm_up σ 16 (Int.toNat (wr (σ 0 17))) x1) 0 17))) x2) 18 (Int.toNat (wr ((pm_up (pm_up σ 16 (Int.toNat (wr (σ 0 17))) x1) 17 (Int.toNat (wr ((pm_up σ 16 (Int.toNat (wr (σ 0 17))) x1) 0 17))) x2) 0 17))) x3) 19 (Int.toNat (wr ((pm_up (pm_up (pm_up σ 16 (Int.toNat (wr (σ 0 17))) x1) 17 (Int.toNat (wr ((pm_up σ 16 (Int.toNat (wr (σ 0 17))) x1) 0 17))) x2) 18 (Int.toNat (wr ((pm_up (pm_up σ 16 (Int.toNat (wr (σ 0 17))) x1) 17 (Int.toNat (wr ((pm_up σ 16 (Int.toNat (wr (σ 0 17))) x1) 0 17))) x2) 0 17))) x3) 0 17))) x4) 20 (Int.toNat (wr ((pm_up (pm_up (pm_up (pm_up σ 16 (Int.toNat (wr (σ 0 17))) x1) 17 (Int.toNat (wr ((pm_up σ 16 (Int.toNat (wr (σ 0 17))) x1) 0 17))) x2) 18 (Int.toNat (wr ((pm_up (pm_up σ 16 (Int.toNat (wr (σ 0 17))) x1) 17 (Int.toNat (wr ((pm_up σ 16 (Int.toNat (wr (σ 0 17))) x1) 0 17))) x2) 0 17))) x3) 19 (Int.toNat (wr ((pm_up (pm_up (pm_up σ 16 (Int.toNat (wr (σ 0 17))) x1) 17 (Int.toNat (wr ((pm_up σ 16 (Int.toNat (wr (σ 0 17))) x1) 0 17))) x2) 18 (Int.toNat (wr ((pm_up (pm_up σ 16 (Int.toNat (wr (σ 0 17))) x1) 17 (Int.toNat (wr ((pm_up σ 16 (Int.toNat (wr (σ 0 17))) x1) 0 17))) x2) 0 17))) x3) 0 17))) x4) 0 17))) x5) 0 17)) ∧ (wr ((pm_up (pm_up (pm_up (pm_up (pm_up σ 16 (Int.toNat (wr (σ 0 17))) x1) 17 (Int.toNat (wr ((pm_up σ 16 (Int.toNat (wr (σ 0 17))) x1) 0 17))) x2) 18 (Int.toNat (wr ((pm_up (pm_up σ 16 (Int.toNat (wr (σ 0 17))) x1) 17 (Int.toNat (wr ((pm_up σ 16 (Int.toNat (wr (σ 0 17))) x1) 0 17))) x2) 0 17))) x3) 19 (Int.toNat (wr ((pm_up (pm_up (pm_up σ 16 (Int.toNat (wr (σ 0 17))) x1) 17 (Int.toNat (wr ((pm_up σ 16 (Int.toNat (wr (σ 0 17))) x1) 0 17))) x2) 18 (Int.toNat (wr ((pm_up (pm_up σ 16 (Int.toNat (wr (σ 0 17))) x1) 17 (Int.toNat (wr ((pm_up σ 16 (Int.toNat (wr (σ 0 17))) x1) 0 17))) x2) 0 17))) x3) 0 17))) x4) 20 (Int.toNat (wr ((pm_up (pm_up (pm_up (pm_up σ 16 (Int.toNat (wr (σ 0 17))) x1) 17 (Int.toNat (wr ((pm_up σ 16 (Int.toNat (wr (σ 0 17))) x1) 0 17))) x2) 18 (Int.toNat (wr ((pm_up (pm_up σ 16 (Int.toNat (wr (σ 0 17))) x1) 17 (Int.toNat (wr ((pm_up σ 16 (Int.toNat (wr (σ 0 17))) x1) 0 17))) x2) 0 17))) x3) 19 (Int.toNat (wr ((pm_up (pm_up (pm_up σ 16 (Int.toNat (wr (σ 0 17))) x1) 17 (Int.toNat (wr ((pm_up σ 16 (Int.toNat (wr (σ 0 17))) x1) 0 17))) x2) 18 (Int.toNat (wr ((pm_up (pm_up σ 16 (Int.toNat (wr (σ 0 17))) x1) 17 (Int.toNat (wr ((pm_up σ 16 (Int.toNat (wr (σ 0 17))) x1) 0 17))) x2) 0 17))) x3) 0 17))) x4) 0 17))) x5) 0 17)) < 12) (some ((((pm_up (pm_up (pm_up (pm_up (pm_up (pm_up (pm_up σ 16 (Int.toNat (wr (σ 0 17))) x1) 17 (Int.toNat (wr ((pm_up σ 16 (Int.toNat (wr (σ 0 17))) x1) 0 17))) x2) 18 (Int.toNat (wr ((pm_up (pm_up σ 16 (Int.toNat (wr (σ 0 17))) x1) 17 (Int.toNat (wr ((pm_up σ 16 (Int.toNat (wr (σ 0 17))) x1) 0 17))) x2) 0 17))) x3) 19 (Int.toNat (wr ((pm_up (pm_up (pm_up σ 16 (Int.toNat (wr (σ 0 17))) x1) 17 (Int.toNat (wr ((pm_up σ 16 (Int.toNat (wr (σ 0 17))) x1) 0 17))) x2) 18 (Int.toNat (wr ((pm_up (pm_up σ 16 (Int.toNat (wr (σ 0 17))) x1) 17 (Int.toNat (wr ((pm_up σ 16 (Int.toNat (wr (σ 0 17))) x1) 0 17))) x2) 0 17))) x3) 0 17))) x4) 20 (Int.toNat (wr ((pm_up (pm_up (pm_up (pm_up σ 16 (Int.toNat (wr (σ 0 17))) x1) 17 (Int.toNat (wr ((pm_up σ 16 (Int.toNat (wr (σ 0 17))) x1) 0 17))) x2) 18 (Int.toNat (wr ((pm_up (pm_up σ 16 (Int.toNat (wr (σ 0 17))) x1) 17 (Int.toNat (wr ((pm_up σ 16 (Int.toNat (wr (σ 0 17))) x1) 0 17))) x2) 0 17))) x3) 19 (Int.toNat (wr ((pm_up (pm_up (pm_up σ 16 (Int.toNat (wr (σ 0 17))) x1) 17 (Int.toNat (wr ((pm_up σ 16 (Int.toNat (wr (σ 0 17))) x1) 0 17))) x2) 18 (Int.toNat (wr ((pm_up (pm_up σ 16 (Int.toNat (wr (σ 0 17))) x1) 17 (Int.toNat (wr ((pm_up σ 16 (Int.toNat (wr (σ 0 17))) x1) 0 17))) x2) 0 17))) x3) 0 17))) x4) 0 17))) x5) 21 (Int.toNat (wr ((pm_up (pm_up (pm_up (pm_up (pm_up σ 16 (Int.toNat (wr (σ 0 17))) x1) 17 (Int.toNat (wr ((pm_up σ 16 (Int.toNat (wr (σ 0 17))) x1) 0 17))) x2) 18 (Int.toNat (wr ((pm_up (pm_up σ 16 (Int.toNat (wr (σ 0 17))) x1) 17 (Int.toNat (wr ((pm_up σ 16 (Int.toNat (wr (σ 0 17))) x1) 0 17))) x2) 0 17))) x3) 19 (Int.toNat (wr ((pm_up (pm_up (pm_up σ 16 (Int.toNat (wr (σ 0 17))) x1) 17 (Int.toNat (wr ((pm_up σ 16 (Int.toNat (wr (σ 0 17))) x1) 0 17))) x2) 18 (Int.toNat (wr ((pm_up (pm_up σ 16 (Int.toNat (wr (σ 0 17))) x1) 17 (Int.toNat (wr ((pm_up σ 16 (Int.toNat (wr (σ 0 17))) x1) 0 17))) x2) 0 17))) x3) 0 17))) x4) 20 (Int.toNat (wr ((pm_up (pm_up (pm_up (pm_up σ 16 (Int.toNat (wr (σ 0 17))) x1) 17 (Int.toNat (wr ((pm_up σ 16 (Int.toNat (wr (σ 0 17))) x1) 0 17))) x2) 18 (Int.toNat (wr ((pm_up (pm_up σ 16 (Int.toNat (wr (σ 0 17))) x1) 17 (Int.toNat (wr ((pm_up σ 16 (Int.toNat (wr (σ 0 17))) x1) 0 17))) x2) 0 17))) x3) 19 (Int.toNat (wr ((pm_up (pm_up (pm_up σ 16 (Int.toNat (wr (σ 0 17))) x1) 17 (Int.toNat (wr ((pm_up σ 16 (Int.toNat (wr (σ 0 17))) x1) 0 17))) x2) 18 (Int.toNat (wr ((pm_up (pm_up σ 16 (Int.toNat (wr (σ 0 17))) x1) 17 (Int.toNat (wr ((pm_up σ 16 (Int.toNat (wr (σ 0 17))) x1) 0 17))) x2) 0 17))) x3) 0 17))) x4) 0 17))) x5) 0 17))) (-9)) 0 17 (((pm_up (pm_up (pm_up (pm_up (pm_up (pm_up σ 16 (Int.toNat (wr (σ 0 17))) x1) 17 (Int.toNat (wr ((pm_up σ 16 (Int.toNat (wr (σ 0 17))) x1) 0 17))) x2) 18 (Int.toNat (wr ((pm_up (pm_up σ 16 (Int.toNat (wr (σ 0 17))) x1) 17 (Int.toNat (wr ((pm_up σ 16 (Int.toNat (wr (σ 0 17))) x1) 0 17))) x2) 0 17))) x3) 19 (Int.toNat (wr ((pm_up (pm_up (pm_up σ 16 (Int.toNat (wr (σ 0 17))) x1) 17 (Int.toNat (wr ((pm_up σ 16 (Int.toNat (wr (σ 0 17))) x1) 0 17))) x2) 18 (Int.toNat (wr ((pm_up (pm_up σ 16 (Int.toNat (wr (σ 0 17))) x1) 17 (Int.toNat (wr ((pm_up σ 16 (Int.toNat (wr (σ 0 17))) x1) 0 17))) x2) 0 17))) x3) 0 17))) x4) 20 (Int.toNat (wr ((pm_up (pm_up (pm_up (pm_up σ 16 (Int.toNat (wr (σ 0 17))) x1) 17 (Int.toNat (wr ((pm_up σ 16 (Int.toNat (wr (σ 0 17))) x1) 0 17))) x2) 18 (Int.toNat (wr ((pm_up (pm_up σ 16 (Int.toNat (wr (σ 0 17))) x1) 17 (Int.toNat (wr ((pm_up σ 16 (Int.toNat (wr (σ 0 17))) x1) 0 17))) x2) 0 17))) x3) 19 (Int.toNat (wr ((pm_up (pm_up (pm_up σ 16 (Int.toNat (wr (σ 0 17))) x1) 17 (Int.toNat (wr ((pm_up σ 16 (Int.toNat (wr (σ 0 17))) x1) 0 17))) x2) 18 (Int.toNat (wr ((pm_up (pm_up σ 16 (Int.toNat (wr (σ 0 17))) x1) 17 (Int.toNat (wr ((pm_up σ 16 (Int.toNat (wr (σ 0 17))) x1) 0 17))) x2) 0 17))) x3) 0 17))) x4) 0 17))) x5) 21 (Int.toNat (wr ((pm_up (pm_up (pm_up (pm_up (pm_up σ 16 (Int.toNat (wr (σ 0 17))) x1) 17 (Int.toNat (wr ((pm_up σ 16 (Int.toNat (wr (σ 0 17))) x1) 0 17))) x2) 18 (Int.toNat (wr ((pm_up (pm_up σ 16 (Int.toNat (wr (σ 0 17))) x1) 17 (Int.toNat (wr ((pm_up σ 16 (Int.toNat (wr (σ 0 17))) x1) 0 17))) x2) 0 17))) x3) 19 (Int.toNat (wr ((pm_up (pm_up (pm_up σ 16 (Int.toNat (wr (σ 0 17))) x1) 17 (Int.toNat (wr ((pm_up σ 16 (Int.toNat (wr (σ 0 17))) x1) 0 17))) x2) 18 (Int.toNat (wr ((pm_up (pm_up σ 16 (Int.toNat (wr (σ 0 17))) x1) 17 (Int.toNat (wr ((pm_up σ 16 (Int.toNat (wr (σ 0 17))) x1) 0 17))) x2) 0 17))) x3) 0 17))) x4) 20 (Int.toNat (wr ((pm_up (pm_up (pm_up (pm_up σ 16 (Int.toNat (wr (σ 0 17))) x1) 17 (Int.toNat (wr ((pm_up σ 16 (Int.toNat (wr (σ 0 17))) x1) 0 17))) x2) 18 (Int.toNat (wr ((pm_up (pm_up σ 16 (Int.toNat (wr (σ 0 17))) x1) 17 (Int.toNat (wr ((pm_up σ 16 (Int.toNat (wr (σ 0 17))) x1) 0 17))) x2) 0 17))) x3) 19 (Int.toNat (wr ((pm_up (pm_up (pm_up σ 16 (Int.toNat (wr (σ 0 17))) x1) 17 (Int.toNat (wr ((pm_up σ 16 (Int.toNat (wr (σ 0 17))) x1) 0 17))) x2) 18 (Int.toNat (wr ((pm_up (pm_up σ 16 (Int.toNat (wr (σ 0 17))) x1) 17 (Int.toNat (wr ((pm_up σ 16 (Int.toNat (wr (σ 0 17))) x1) 0 17))) x2) 0 17))) x3) 0 17))) x4) 0 17))) x5) 0 17))) (-9)) 0 17) + 1)) 0 17) - 1), (pm_up (pm_up (pm_up (pm_up (pm_up (pm_up (pm_up σ 16 (Int.toNat (wr (σ 0 17))) x1) 17 (Int.toNat (wr ((pm_up σ 16 (Int.toNat (wr (σ 0 17))) x1) 0 17))) x2) 18 (Int.toNat (wr ((pm_up (pm_up σ 16 (Int.toNat (wr (σ 0 17))) x1) 17 (Int.toNat (wr ((pm_up σ 16 (Int.toNat (wr (σ 0 17))) x1) 0 17))) x2) 0 17))) x3) 19 (Int.toNat (wr ((pm_up (pm_up (pm_up σ 16 (Int.toNat (wr (σ 0 17))) x1) 17 (Int.toNat (wr ((pm_up σ 16 (Int.toNat (wr (σ 0 17))) x1) 0 17))) x2) 18 (Int.toNat (wr ((pm_up (pm_up σ 16 (Int.toNat (wr (σ 0 17))) x1) 17 (Int.toNat (wr ((pm_up σ 16 (Int.toNat (wr (σ 0 17))) x1) 0 17))) x2) 0 17))) x3) 0 17))) x4) 20 (Int.toNat (wr ((pm_up (pm_up (pm_up (pm_up σ 16 (Int.toNat (wr (σ 0 17))) x1) 17 (Int.toNat (wr ((pm_up σ 16 (Int.toNat (wr (σ 0 17))) x1) 0 17))) x2) 18 (Int.toNat (wr ((pm_up (pm_up σ 16 (Int.toNat (wr (σ 0 17))) x1) 17 (Int.toNat (wr ((pm_up σ 16 (Int.toNat (wr (σ 0 17))) x1) 0 17))) x2) 0 17))) x3) 19 (Int.toNat (wr ((pm_up (pm_up (pm_up σ 16 (Int.toNat (wr (σ 0 17))) x1) 17 (Int.toNat (wr ((pm_up σ 16 (Int.toNat (wr (σ 0 17))) x1) 0 17))) x2) 18 (Int.toNat (wr ((pm_up (pm_up σ 16 (Int.toNat (wr (σ 0 17))) x1) 17 (Int.toNat (wr ((pm_up σ 16 (Int.toNat (wr (σ 0 17))) x1) 0 17))) x2) 0 17))) x3) 0 17))) x4) 0 17))) x5) 21 (Int.toNat (wr ((pm_up (pm_up (pm_up (pm_up (pm_up σ 16 (Int.toNat (wr (σ 0 17))) x1) 17 (Int.toNat (wr ((pm_up σ 16 (Int.toNat (wr (σ 0 17))) x1) 0 17))) x2) 18 (Int.toNat (wr ((pm_up (pm_up σ 16 (Int.toNat (wr (σ 0 17))) x1) 17 (Int.toNat (wr ((pm_up σ 16 (Int.toNat (wr (σ 0 17))) x1) 0 17))) x2) 0 17))) x3) 19 (Int.toNat (wr ((pm_up (pm_up (pm_up σ 16 (Int.toNat (wr (σ 0 17))) x1) 17 (Int.toNat (wr ((pm_up σ 16 (Int.toNat (wr (σ 0 17))) x1) 0 17))) x2) 18 (Int.toNat (wr ((pm_up (pm_up σ 16 (Int.toNat (wr (σ 0 17))) x1) 17 (Int.toNat (wr ((pm_up σ 16 (Int.toNat (wr (σ 0 17))) x1) 0 17))) x2) 0 17))) x3) 0 17))) x4) 20 (Int.toNat (wr ((pm_up (pm_up (pm_up (pm_up σ 16 (Int.toNat (wr (σ 0 17))) x1) 17 (Int.toNat (wr ((pm_up σ 16 (Int.toNat (wr (σ 0 17))) x1) 0 17))) x2) 18 (Int.toNat (wr ((pm_up (pm_up σ 16 (Int.toNat (wr (σ 0 17))) x1) 17 (Int.toNat (wr ((pm_up σ 16 (Int.toNat (wr (σ 0 17))) x1) 0 17))) x2) 0 17))) x3) 19 (Int.toNat (wr ((pm_up (pm_up (pm_up σ 16 (Int.toNat (wr (σ 0 17))) x1) 17 (Int.toNat (wr ((pm_up σ 16 (Int.toNat (wr (σ 0 17))) x1) 0 17))) x2) 18 (Int.toNat (wr ((pm_up (pm_up σ 16 (Int.toNat (wr (σ 0 17))) x1) 17 (Int.toNat (wr ((pm_up σ 16 (Int.toNat (wr (σ 0 17))) x1) 0 17))) x2) 0 17))) x3) 0 17))) x4) 0 17))) x5) 0 17))) (-9)) 0 17 (((pm_up (pm_up (pm_up (pm_up (pm_up (pm_up σ 16 (Int.toNat (wr (σ 0 17))) x1) 17 (Int.toNat (wr ((pm_up σ 16 (Int.toNat (wr (σ 0 17))) x1) 0 17))) x2) 18 (Int.toNat (wr ((pm_up (pm_up σ 16 (Int.toNat (wr (σ 0 17))) x1) 17 (Int.toNat (wr ((pm_up σ 16 (Int.toNat (wr (σ 0 17))) x1) 0 17))) x2) 0 17))) x3) 19 (Int.toNat (wr ((pm_up (pm_up (pm_up σ 16 (Int.toNat (wr (σ 0 17))) x1) 17 (Int.toNat (wr ((pm_up σ 16 (Int.toNat (wr (σ 0 17))) x1) 0 17))) x2) 18 (Int.toNat (wr ((pm_up (pm_up σ 16 (Int.toNat (wr (σ 0 17))) x1) 17 (Int.toNat (wr ((pm_up σ 16 (Int.toNat (wr (σ 0 17))) x1) 0 17))) x2) 0 17))) x3) 0 17))) x4) 20 (Int.toNat (wr ((pm_up (pm_up (pm_up (pm_up σ 16 (Int.toNat (wr (σ 0 17))) x1) 17 (Int.toNat (wr ((pm_up σ 16 (Int.toNat (wr (σ 0 17))) x1) 0 17))) x2) 18 (Int.toNat (wr ((pm_up (pm_up σ 16 (Int.toNat (wr (σ 0 17))) x1) 17 (Int.toNat (wr ((pm_up σ 16 (Int.toNat (wr (σ 0 17))) x1) 0 17))) x2) 0 17))) x3) 19 (Int.toNat (wr ((pm_up (pm_up (pm_up σ 16 (Int.toNat (wr (σ 0 17))) x1) 17 (Int.toNat (wr ((pm_up σ 16 (Int.toNat (wr (σ 0 17))) x1) 0 17))) x2) 18 (Int.toNat (wr ((pm_up (pm_up σ 16 (Int.toNat (wr (σ 0 17))) x1) 17 (Int.toNat (wr ((pm_up σ 16 (Int.toNat (wr (σ 0 17))) x1) 0 17))) x2) 0 17))) x3) 0 17))) x4) 0 17))) x5) 21 (Int.toNat (wr ((pm_up (pm_up (pm_up (pm_up (pm_up σ 16 (Int.toNat (wr (σ 0 17))) x1) 17 (Int.toNat (wr ((pm_up σ 16 (Int.toNat (wr (σ 0 17))) x1) 0 17))) x2) 18 (Int.toNat (wr ((pm_up (pm_up σ 16 (Int.toNat (wr (σ 0 17))) x1) 17 (Int.toNat (wr ((pm_up σ 16 (Int.toNat (wr (σ 0 17))) x1) 0 17))) x2) 0 17))) x3) 19 (Int.toNat (wr ((pm_up (pm_up (pm_up σ 16 (Int.toNat (wr (σ 0 17))) x1) 17 (Int.toNat (wr ((pm_up σ 16 (Int.toNat (wr (σ 0 17))) x1) 0 17))) x2) 18 (Int.toNat (wr ((pm_up (pm_up σ 16 (Int.toNat (wr (σ 0 17))) x1) 17 (Int.toNat (wr ((pm_up σ 16 (Int.toNat (wr (σ 0 17))) x1) 0 17))) x2) 0 17))) x3) 0 17))) x4) 20 (Int.toNat (wr ((pm_up (pm_up (pm_up (pm_up σ 16 (Int.toNat (wr (σ 0 17))) x1) 17 (Int.toNat (wr ((pm_up σ 16 (Int.toNat (wr (σ 0 17))) x1) 0 17))) x2) 18 (Int.toNat (wr ((pm_up (pm_up σ 16 (Int.toNat (wr (σ 0 17))) x1) 17 (Int.toNat (wr ((pm_up σ 16 (Int.toNat (wr (σ 0 17))) x1) 0 17))) x2) 0 17))) x3) 19 (Int.toNat (wr ((pm_up (pm_up (pm_up σ 16 (Int.toNat (wr (σ 0 17))) x1) 17 (Int.toNat (wr ((pm_up σ 16 (Int.toNat (wr (σ 0 17))) x1) 0 17))) x2) 18 (Int.toNat (wr ((pm_up (pm_up σ 16 (Int.toNat (wr (σ 0 17))) x1) 17 (Int.toNat (wr ((pm_up σ 16 (Int.toNat (wr (σ 0 17))) x1) 0 17))) x2) 0 17))) x3) 0 17))) x4) 0 17))) x5) 0 17))) (-9)) 0 17) + 1)))))))))))))) else ((fX12_refuse (-4) σ).bind fun q34 => some (q34.1, q34.2))))))
set_option maxHeartbeats 4000000 in
set_option maxRecDepth 100000 in
theorem tmX12_order {x1 : Int} {x2 : Int} {x3 : Int} {x4 : Int} {x5 : Int} {σ : pm_M} {ρ : Int × pm_M} (h : fX12_order x1 x2 x3 x4 x5 σ = some ρ) : pm_C mX12_order 2 42 [pv_r 0, pv_i x1, pv_i x2, pv_i x3, pv_i x4, pv_i x5] LAYM σ (some (pv_i ρ.1)) LAYM ρ.2 := by
  refine pm_C.of (by decide) rfl (Nat.le_of_ble_eq_true rfl) ?_
  show pm_J mX12_order 2 42 LAYM (some (pv_i ρ.1)) LAYM ρ.2 0 [some (pv_r 0), some (pv_i x1), some (pv_i x2), some (pv_i x3), some (pv_i x4), some (pv_i x5)] [] LAYM σ
  unfold fX12_order at h
  refine pr_aload_n dX12_order_0 rfl ?_
  refine pr_iload_n dX12_order_1 rfl ?_
  obtain ⟨q1, e2, h⟩ := pm_bs h
  refine pr_callV (As := [pv_i x1]) (S := []) (t := 0) dX12_order_2 mk_X12_111 lm_0 (ci := 12) (q := (RX12, TX12, 36)) rfl rfl rfl rfl (Nat.le_of_ble_eq_true rfl) (by decide) (by decide) (Or.inl rfl) (tmX12_isKind e2) ?_
  refine pr_if_eq (tgt := 15) dX12_order_5 rfl (by decide) (fun c_3 => ?_) (fun c_3 => ?_)
  · have h := pm_pos c_3 h
    refine pr_aload_n dX12_order_15 rfl ?_
    refine pr_iconst dX12_order_16 ?_
    obtain ⟨q4, e5, h⟩ := pm_bs h
    refine pr_callV (As := [pv_i (-1)]) (S := []) (t := 0) dX12_order_17 mk_X12_103 lm_0 (ci := 12) (q := (RX12, TX12, 36)) rfl rfl rfl rfl (Nat.le_of_ble_eq_true rfl) (by decide) (by decide) (Or.inl rfl) (tmX12_refuse e5) ?_
    have h := Option.some.inj h
    subst h
    exact pr_iret dX12_order_20 rfl
  · have h := pm_ng c_3 h
    refine pr_iload_n dX12_order_8 rfl ?_
    obtain ⟨q6, e7, h⟩ := pm_bs h
    refine pr_callS (av := [pv_i x2]) (S := []) dX12_order_9 mk_X12_151 rfl rfl (Nat.le_of_ble_eq_true rfl) (by decide) (by decide) (Or.inl rfl) (tmX12_isWeight e7) ?_
    refine pr_if_ne (tgt := 21) dX12_order_12 rfl (by decide) (fun c_8 => ?_) (fun c_8 => ?_)
    · have h := pm_ng c_8 h
      refine pr_iload_n dX12_order_21 rfl ?_
      refine pr_iconst dX12_order_22 ?_
      refine pr_icmp_lt (tgt := 36) dX12_order_23 rfl (wr_eq (by decide) (by decide)) (by decide) (fun c_9 => ?_) (fun c_9 => ?_)
      · have h := pm_pos c_9 h
        refine pr_aload_n dX12_order_36 rfl ?_
        refine pr_bipush dX12_order_37 (by decide) ?_
        obtain ⟨q10, e11, h⟩ := pm_bs h
        refine pr_callV (As := [pv_i (-4)]) (S := []) (t := 0) dX12_order_39 mk_X12_103 lm_0 (ci := 12) (q := (RX12, TX12, 36)) rfl rfl rfl rfl (Nat.le_of_ble_eq_true rfl) (by decide) (by decide) (Or.inl rfl) (tmX12_refuse e11) ?_
        have h := Option.some.inj h
        subst h
        exact pr_iret dX12_order_42 rfl
      · have h := pm_ng c_9 h
        refine pr_iload dX12_order_26 rfl ?_
        refine pr_if_lt (tgt := 36) dX12_order_28 rfl (by decide) (fun c_12 => ?_) (fun c_12 => ?_)
        · have h := pm_pos c_12 h
          refine pr_aload_n dX12_order_36 rfl ?_
          refine pr_bipush dX12_order_37 (by decide) ?_
          obtain ⟨q13, e14, h⟩ := pm_bs h
          refine pr_callV (As := [pv_i (-4)]) (S := []) (t := 0) dX12_order_39 mk_X12_103 lm_0 (ci := 12) (q := (RX12, TX12, 36)) rfl rfl rfl rfl (Nat.le_of_ble_eq_true rfl) (by decide) (by decide) (Or.inl rfl) (tmX12_refuse e14) ?_
          have h := Option.some.inj h
          subst h
          exact pr_iret dX12_order_42 rfl
        · have h := pm_ng c_12 h
          refine pr_iload dX12_order_31 rfl ?_
          refine pr_if_ge (tgt := 43) dX12_order_33 rfl (by decide) (fun c_15 => ?_) (fun c_15 => ?_)
          · have h := pm_pos c_15 h
            refine pr_iload_n dX12_order_43 rfl ?_
            refine pr_bipush dX12_order_44 (by decide) ?_
            refine pr_icmp_gt (tgt := 73) dX12_order_46 rfl (wr_eq (by decide) (by decide)) (by decide) (fun c_16 => ?_) (fun c_16 => ?_)
            · have h := pm_pos c_16 h
              refine pr_aload_n dX12_order_73 rfl ?_
              refine pr_bipush dX12_order_74 (by decide) ?_
              obtain ⟨q17, e18, h⟩ := pm_bs h
              refine pr_callV (As := [pv_i (-6)]) (S := []) (t := 0) dX12_order_76 mk_X12_103 lm_0 (ci := 12) (q := (RX12, TX12, 36)) rfl rfl rfl rfl (Nat.le_of_ble_eq_true rfl) (by decide) (by decide) (Or.inl rfl) (tmX12_refuse e18) ?_
              have h := Option.some.inj h
              subst h
              exact pr_iret dX12_order_79 rfl
            · have h := pm_ng c_16 h
              refine pr_iload dX12_order_49 rfl ?_
              refine pr_bipush dX12_order_51 (by decide) ?_
              refine pr_icmp_gt (tgt := 73) dX12_order_53 rfl (wr_eq (by decide) (by decide)) (by decide) (fun c_19 => ?_) (fun c_19 => ?_)
              · have h := pm_pos c_19 h
                refine pr_aload_n dX12_order_73 rfl ?_
                refine pr_bipush dX12_order_74 (by decide) ?_
                obtain ⟨q20, e21, h⟩ := pm_bs h
                refine pr_callV (As := [pv_i (-6)]) (S := []) (t := 0) dX12_order_76 mk_X12_103 lm_0 (ci := 12) (q := (RX12, TX12, 36)) rfl rfl rfl rfl (Nat.le_of_ble_eq_true rfl) (by decide) (by decide) (Or.inl rfl) (tmX12_refuse e21) ?_
                have h := Option.some.inj h
                subst h
                exact pr_iret dX12_order_79 rfl
              · have h := pm_ng c_19 h
                refine pr_iload dX12_order_56 rfl ?_
                refine pr_sipush dX12_order_58 (by decide) ?_
                refine pr_icmp_gt (tgt := 73) dX12_order_61 rfl (wr_eq (by decide) (by decide)) (by decide) (fun c_22 => ?_) (fun c_22 => ?_)
                · have h := pm_pos c_22 h
                  refine pr_aload_n dX12_order_73 rfl ?_
                  refine pr_bipush dX12_order_74 (by decide) ?_
                  obtain ⟨q23, e24, h⟩ := pm_bs h
                  refine pr_callV (As := [pv_i (-6)]) (S := []) (t := 0) dX12_order_76 mk_X12_103 lm_0 (ci := 12) (q := (RX12, TX12, 36)) rfl rfl rfl rfl (Nat.le_of_ble_eq_true rfl) (by decide) (by decide) (Or.inl rfl) (tmX12_refuse e24) ?_
                  have h := Option.some.inj h
                  subst h
                  exact pr_iret dX12_order_79 rfl
                · have h := pm_ng c_22 h
                  refine pr_aload_n dX12_order_64 rfl ?_
                  refine pr_getI dX12_order_65 lk_X12_154 lm_0 rfl ?_
                  refine pr_bipush dX12_order_68 (by decide) ?_
                  refine pr_icmp_ne (tgt := 80) dX12_order_70 rfl (wr_eq (by decide) (by decide)) (by decide) (fun c_25 => ?_) (fun c_25 => ?_)
                  · have h := pm_ng c_25 h
                    refine pr_aload_n dX12_order_80 rfl ?_
                    refine pr_getR dX12_order_81 lk_X12_59 lm_0 rfl ?_
                    refine pr_aload_n dX12_order_84 rfl ?_
                    refine pr_getI dX12_order_85 lk_X12_154 lm_0 rfl ?_
                    refine pr_iload_n dX12_order_88 rfl ?_
                    obtain ⟨g_26, h⟩ := pm_gs h
                    refine pr_iast dX12_order_89 lm_16 rfl g_26 ?_
                    refine pr_aload_n dX12_order_90 rfl ?_
                    refine pr_getR dX12_order_91 lk_X12_62 lm_0 rfl ?_
                    refine pr_aload_n dX12_order_94 rfl ?_
                    refine pr_getI dX12_order_95 lk_X12_154 lm_0 rfl ?_
                    refine pr_iload_n dX12_order_98 rfl ?_
                    obtain ⟨g_27, h⟩ := pm_gs h
                    refine pr_iast dX12_order_99 lm_17 rfl g_27 ?_
                    refine pr_aload_n dX12_order_100 rfl ?_
                    refine pr_getR dX12_order_101 lk_X12_65 lm_0 rfl ?_
                    refine pr_aload_n dX12_order_104 rfl ?_
                    refine pr_getI dX12_order_105 lk_X12_154 lm_0 rfl ?_
                    refine pr_iload_n dX12_order_108 rfl ?_
                    obtain ⟨g_28, h⟩ := pm_gs h
                    refine pr_iast dX12_order_109 lm_18 rfl g_28 ?_
                    refine pr_aload_n dX12_order_110 rfl ?_
                    refine pr_getR dX12_order_111 lk_X12_68 lm_0 rfl ?_
                    refine pr_aload_n dX12_order_114 rfl ?_
                    refine pr_getI dX12_order_115 lk_X12_154 lm_0 rfl ?_
                    refine pr_iload dX12_order_118 rfl ?_
                    obtain ⟨g_29, h⟩ := pm_gs h
                    refine pr_iast dX12_order_120 lm_19 rfl g_29 ?_
                    refine pr_aload_n dX12_order_121 rfl ?_
                    refine pr_getR dX12_order_122 lk_X12_71 lm_0 rfl ?_
                    refine pr_aload_n dX12_order_125 rfl ?_
                    refine pr_getI dX12_order_126 lk_X12_154 lm_0 rfl ?_
                    refine pr_iload dX12_order_129 rfl ?_
                    obtain ⟨g_30, h⟩ := pm_gs h
                    refine pr_iast dX12_order_131 lm_20 rfl g_30 ?_
                    refine pr_aload_n dX12_order_132 rfl ?_
                    refine pr_getR dX12_order_133 lk_X12_74 lm_0 rfl ?_
                    refine pr_aload_n dX12_order_136 rfl ?_
                    refine pr_getI dX12_order_137 lk_X12_154 lm_0 rfl ?_
                    refine pr_bipush dX12_order_140 (by decide) ?_
                    obtain ⟨g_31, h⟩ := pm_gs h
                    refine pr_iast dX12_order_142 lm_21 rfl g_31 ?_
                    refine pr_aload_n dX12_order_143 rfl ?_
                    refine pr_dup dX12_order_144 rfl ?_
                    refine pr_getI dX12_order_145 lk_X12_154 lm_0 rfl ?_
                    refine pr_iconst dX12_order_148 ?_
                    refine pr_iadd dX12_order_149 ?_
                    refine pr_putI dX12_order_150 lp_X12_154 lm_0 rfl ?_
                    refine pr_aload_n dX12_order_153 rfl ?_
                    refine pr_getI dX12_order_154 lk_X12_154 lm_0 rfl ?_
                    refine pr_iconst dX12_order_157 ?_
                    refine pr_isub dX12_order_158 ?_
                    have h := Option.some.inj h
                    subst h
                    exact pr_iret dX12_order_159 rfl
                  · have h := pm_pos c_25 h
                    refine pr_aload_n dX12_order_73 rfl ?_
                    refine pr_bipush dX12_order_74 (by decide) ?_
                    obtain ⟨q32, e33, h⟩ := pm_bs h
                    refine pr_callV (As := [pv_i (-6)]) (S := []) (t := 0) dX12_order_76 mk_X12_103 lm_0 (ci := 12) (q := (RX12, TX12, 36)) rfl rfl rfl rfl (Nat.le_of_ble_eq_true rfl) (by decide) (by decide) (Or.inl rfl) (tmX12_refuse e33) ?_
                    have h := Option.some.inj h
                    subst h
                    exact pr_iret dX12_order_79 rfl
          · have h := pm_ng c_15 h
            refine pr_aload_n dX12_order_36 rfl ?_
            refine pr_bipush dX12_order_37 (by decide) ?_
            obtain ⟨q34, e35, h⟩ := pm_bs h
            refine pr_callV (As := [pv_i (-4)]) (S := []) (t := 0) dX12_order_39 mk_X12_103 lm_0 (ci := 12) (q := (RX12, TX12, 36)) rfl rfl rfl rfl (Nat.le_of_ble_eq_true rfl) (by decide) (by decide) (Or.inl rfl) (tmX12_refuse e35) ?_
            have h := Option.some.inj h
            subst h
            exact pr_iret dX12_order_42 rfl
    · have h := pm_pos c_8 h
      refine pr_aload_n dX12_order_15 rfl ?_
      refine pr_iconst dX12_order_16 ?_
      obtain ⟨q36, e37, h⟩ := pm_bs h
      refine pr_callV (As := [pv_i (-1)]) (S := []) (t := 0) dX12_order_17 mk_X12_103 lm_0 (ci := 12) (q := (RX12, TX12, 36)) rfl rfl rfl rfl (Nat.le_of_ble_eq_true rfl) (by decide) (by decide) (Or.inl rfl) (tmX12_refuse e37) ?_
      have h := Option.some.inj h
      subst h
      exact pr_iret dX12_order_20 rfl
def fX12_today (σ : pm_M) : Option (Int) :=
  some (Int.tdiv (wr (σ 25 (Int.toNat 751))) 24)
set_option maxHeartbeats 4000000 in
set_option maxRecDepth 100000 in
theorem tmX12_today {σ : pm_M} {ρ : Int} (h : fX12_today σ = some ρ) : pm_C mX12_today 0 0 [pv_r 0] LAYM σ (some (pv_i ρ)) LAYM σ := by
  refine pm_C.of (by decide) rfl (Nat.le_of_ble_eq_true rfl) ?_
  show pm_J mX12_today 0 0 LAYM (some (pv_i ρ)) LAYM σ 0 [some (pv_r 0)] [] LAYM σ
  unfold fX12_today at h
  refine pr_aload_n dX12_today_0 rfl ?_
  refine pr_getR dX12_today_1 lk_X12_86 lm_0 rfl ?_
  refine pr_sipush dX12_today_4 (by decide) ?_
  refine pr_iald dX12_today_7 lm_25 (wr_eq (by decide) (by decide)) ⟨by decide, by decide⟩ ?_
  refine pr_bipush dX12_today_8 (by decide) ?_
  refine pr_idiv dX12_today_10 rfl (wr_eq (by decide) (by decide)) (by decide) ?_
  have h := Option.some.inj h
  subst h
  exact pr_iret dX12_today_11 rfl
