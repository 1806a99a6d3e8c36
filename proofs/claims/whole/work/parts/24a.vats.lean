def fX8_copyFrom (σ : pm_M) : Option (pm_M) :=
  (fX11_copyRow 38 3 71 3 σ).bind fun q1 => (fX11_copyRow 39 3 72 3 q1).bind fun q3 => (fX11_copyRow 40 3 73 3 q3).bind fun q5 => (fX11_copyRow 41 3 74 3 q5).bind fun q7 => (fX11_copyRow 42 36 75 36 q7).bind fun q9 => some (pm_up q9 70 8 (q9 37 8))
set_option maxHeartbeats 4000000 in
set_option maxRecDepth 100000 in
theorem tmX8_copyFrom {σ : pm_M} {ρ : pm_M} (h : fX8_copyFrom σ = some ρ) : pm_C mX8_copyFrom 2 81 [pv_r 70, pv_r 37] LAYC σ none LAYC ρ := by
  refine pm_C.of (by decide) rfl (Nat.le_of_ble_eq_true rfl) ?_
  show pm_J mX8_copyFrom 2 81 LAYC none LAYC ρ 0 [some (pv_r 70), some (pv_r 37)] [] LAYC σ
  unfold fX8_copyFrom at h
  refine pr_aload_n dX8_copyFrom_0 rfl ?_
  refine pr_getR dX8_copyFrom_1 lk_X8_9 lc_37 rfl ?_
  refine pr_aload_n dX8_copyFrom_4 rfl ?_
  refine pr_getR dX8_copyFrom_5 lk_X8_9 lc_70 rfl ?_
  obtain ⟨q1, e2, h⟩ := pm_bs h
  refine pr_callSN (av := [pv_r 38, pv_r 71]) (S := []) dX8_copyFrom_8 mk_X8_44 rfl rfl (Nat.le_of_ble_eq_true rfl) (by decide) (by decide) (Or.inl rfl) (tmX11_copyRow lc_38 lc_71 e2) ?_
  refine pr_aload_n dX8_copyFrom_11 rfl ?_
  refine pr_getR dX8_copyFrom_12 lk_X8_15 lc_37 rfl ?_
  refine pr_aload_n dX8_copyFrom_15 rfl ?_
  refine pr_getR dX8_copyFrom_16 lk_X8_15 lc_70 rfl ?_
  obtain ⟨q3, e4, h⟩ := pm_bs h
  refine pr_callSN (av := [pv_r 39, pv_r 72]) (S := []) dX8_copyFrom_19 mk_X8_44 rfl rfl (Nat.le_of_ble_eq_true rfl) (by decide) (by decide) (Or.inl rfl) (tmX11_copyRow lc_39 lc_72 e4) ?_
  refine pr_aload_n dX8_copyFrom_22 rfl ?_
  refine pr_getR dX8_copyFrom_23 lk_X8_18 lc_37 rfl ?_
  refine pr_aload_n dX8_copyFrom_26 rfl ?_
  refine pr_getR dX8_copyFrom_27 lk_X8_18 lc_70 rfl ?_
  obtain ⟨q5, e6, h⟩ := pm_bs h
  refine pr_callSN (av := [pv_r 40, pv_r 73]) (S := []) dX8_copyFrom_30 mk_X8_44 rfl rfl (Nat.le_of_ble_eq_true rfl) (by decide) (by decide) (Or.inl rfl) (tmX11_copyRow lc_40 lc_73 e6) ?_
  refine pr_aload_n dX8_copyFrom_33 rfl ?_
  refine pr_getR dX8_copyFrom_34 lk_X8_21 lc_37 rfl ?_
  refine pr_aload_n dX8_copyFrom_37 rfl ?_
  refine pr_getR dX8_copyFrom_38 lk_X8_21 lc_70 rfl ?_
  obtain ⟨q7, e8, h⟩ := pm_bs h
  refine pr_callSN (av := [pv_r 41, pv_r 74]) (S := []) dX8_copyFrom_41 mk_X8_44 rfl rfl (Nat.le_of_ble_eq_true rfl) (by decide) (by decide) (Or.inl rfl) (tmX11_copyRow lc_41 lc_74 e8) ?_
  refine pr_aload_n dX8_copyFrom_44 rfl ?_
  refine pr_getR dX8_copyFrom_45 lk_X8_24 lc_37 rfl ?_
  refine pr_aload_n dX8_copyFrom_48 rfl ?_
  refine pr_getR dX8_copyFrom_49 lk_X8_24 lc_70 rfl ?_
  obtain ⟨q9, e10, h⟩ := pm_bs h
  refine pr_callSN (av := [pv_r 42, pv_r 75]) (S := []) dX8_copyFrom_52 mk_X8_44 rfl rfl (Nat.le_of_ble_eq_true rfl) (by decide) (by decide) (Or.inl rfl) (tmX11_copyRow lc_42 lc_75 e10) ?_
  refine pr_aload_n dX8_copyFrom_55 rfl ?_
  refine pr_aload_n dX8_copyFrom_56 rfl ?_
  refine pr_getI dX8_copyFrom_57 lk_X8_48 lc_37 rfl ?_
  refine pr_putI dX8_copyFrom_60 lp_X8_48 lc_70 rfl ?_
  have h := Option.some.inj h
  subst h
  exact pr_vret dX8_copyFrom_63 rfl
def bdX8_isPairElsewhere_2 (b : Nat) (y1 : Int) (y2 : Int) (σ : pm_M) (z3 : Int) : Option (((Int) ⊕ (Int)) ⊕ (Int)) :=
  if 3 ≤ (wr z3) then (some (.inl (.inr z3))) else (if (wr z3) = (wr y1) then (some (.inr (z3 + 1))) else (pm_g (0 ≤ (wr z3) ∧ (wr z3) < 3) (if (wr (σ (b + 23) (Int.toNat (wr z3)))) = (wr y2) then (some (.inl (.inl z3))) else (some (.inr (z3 + 1))))))
set_option maxHeartbeats 4000000 in
set_option maxRecDepth 100000 in
theorem tbX8_isPairElsewhere_2 {lay0 lay' : List pm_S} {r : Option pm_V} {σ' : pm_M} {b : Nat} (hb : b = 15 ∨ b = 48) (y1 : Int) (y2 : Int) (σ : pm_M) : ∀ (a : Int) (e : ((Int) ⊕ (Int)) ⊕ (Int)), (fun a => bdX8_isPairElsewhere_2 b y1 y2 σ a) a = some e → (∀ a, e = .inr a → (fun a => pm_J mX8_isPairElsewhere 0 0 lay0 r lay' σ' 2 [some (pv_r (b + 22)), some (pv_i y1), some (pv_i y2), some (pv_i a)] [] LAYC σ) a) → (∀ a, e = .inl a → (fun a => match a with | .inl a => pm_J mX8_isPairElsewhere 0 0 lay0 r lay' σ' 22 [none, none, none, none] [] LAYC σ | .inr a => pm_J mX8_isPairElsewhere 0 0 lay0 r lay' σ' 30 [none, none, none, none] [] LAYC σ) a) → (fun a => pm_J mX8_isPairElsewhere 0 0 lay0 r lay' σ' 2 [some (pv_r (b + 22)), some (pv_i y1), some (pv_i y2), some (pv_i a)] [] LAYC σ) a := by
  intro z3 e h hc hx
  have h : bdX8_isPairElsewhere_2 b y1 y2 σ z3 = some e := h
  unfold bdX8_isPairElsewhere_2 at h
  show pm_J mX8_isPairElsewhere 0 0 lay0 r lay' σ' 2 [some (pv_r (b + 22)), some (pv_i y1), some (pv_i y2), some (pv_i z3)] [] LAYC σ
  refine pr_iload_n dX8_isPairElsewhere_2 rfl ?_
  refine pr_iconst dX8_isPairElsewhere_3 ?_
  refine pr_icmp_ge (tgt := 30) dX8_isPairElsewhere_4 rfl (wr_eq (by decide) (by decide)) (by decide) (fun c_1 => ?_) (fun c_1 => ?_)
  · have h := pm_pos c_1 h
    refine pr_weak (L2 := [none, none, none, none]) ⟨Or.inl rfl, Or.inl rfl, Or.inl rfl, Or.inl rfl, trivial⟩ ?_
    exact hx (.inr z3) (Option.some.inj h).symm
  · have h := pm_ng c_1 h
    refine pr_iload_n dX8_isPairElsewhere_7 rfl ?_
    refine pr_iload_n dX8_isPairElsewhere_8 rfl ?_
    refine pr_icmp_eq (tgt := 24) dX8_isPairElsewhere_9 rfl rfl (by decide) (fun c_2 => ?_) (fun c_2 => ?_)
    · have h := pm_pos c_2 h
      refine pr_iinc dX8_isPairElsewhere_24 rfl (by decide) rfl ?_
      refine pr_goto (tgt := 2) dX8_isPairElsewhere_27 (by decide) ?_
      refine pr_weak (L2 := [some (pv_r (b + 22)), some (pv_i y1), some (pv_i y2), some (pv_i (z3 + 1))]) ⟨Or.inr rfl, Or.inr rfl, Or.inr rfl, Or.inr rfl, trivial⟩ ?_
      exact hc (z3 + 1) (Option.some.inj h).symm
    · have h := pm_ng c_2 h
      refine pr_aload_n dX8_isPairElsewhere_12 rfl ?_
      refine pr_getR dX8_isPairElsewhere_13 lk_X8_9 (lw_22 hb) rfl ?_
      refine pr_iload_n dX8_isPairElsewhere_16 rfl ?_
      obtain ⟨g_3, h⟩ := pm_gs h
      refine pr_iald dX8_isPairElsewhere_17 (lw_23 hb) rfl g_3 ?_
      refine pr_iload_n dX8_isPairElsewhere_18 rfl ?_
      refine pr_icmp_ne (tgt := 24) dX8_isPairElsewhere_19 rfl rfl (by decide) (fun c_4 => ?_) (fun c_4 => ?_)
      · have h := pm_ng c_4 h
        refine pr_iinc dX8_isPairElsewhere_24 rfl (by decide) rfl ?_
        refine pr_goto (tgt := 2) dX8_isPairElsewhere_27 (by decide) ?_
        refine pr_weak (L2 := [some (pv_r (b + 22)), some (pv_i y1), some (pv_i y2), some (pv_i (z3 + 1))]) ⟨Or.inr rfl, Or.inr rfl, Or.inr rfl, Or.inr rfl, trivial⟩ ?_
        exact hc (z3 + 1) (Option.some.inj h).symm
      · have h := pm_pos c_4 h
        refine pr_weak (L2 := [none, none, none, none]) ⟨Or.inl rfl, Or.inl rfl, Or.inl rfl, Or.inl rfl, trivial⟩ ?_
        exact hx (.inl z3) (Option.some.inj h).symm
def fX8_isPairElsewhere (b : Nat) (x1 : Int) (x2 : Int) (σ : pm_M) : Option (Int) :=
  (pm_it (fun a => bdX8_isPairElsewhere_2 b x1 x2 σ a) pm_fuel 0).bind fun v5 => match v5 with | .inl v5 => (some 1) | .inr v5 => (some 0)
set_option maxHeartbeats 4000000 in
set_option maxRecDepth 100000 in
theorem tmX8_isPairElsewhere {b : Nat} (hb : b = 15 ∨ b = 48) {x1 : Int} {x2 : Int} {σ : pm_M} {ρ : Int} (h : fX8_isPairElsewhere b x1 x2 σ = some ρ) : pm_C mX8_isPairElsewhere 0 0 [pv_r (b + 22), pv_i x1, pv_i x2] LAYC σ (some (pv_i ρ)) LAYC σ := by
  refine pm_C.of (by decide) rfl (Nat.le_of_ble_eq_true rfl) ?_
  show pm_J mX8_isPairElsewhere 0 0 LAYC (some (pv_i ρ)) LAYC σ 0 [some (pv_r (b + 22)), some (pv_i x1), some (pv_i x2), none] [] LAYC σ
  unfold fX8_isPairElsewhere at h
  refine pr_iconst dX8_isPairElsewhere_0 ?_
  refine pr_istore_n dX8_isPairElsewhere_1 (by decide) rfl ?_
  obtain ⟨v5, e6, h⟩ := pm_bs h
  refine pr_weak (L2 := [some (pv_r (b + 22)), some (pv_i x1), some (pv_i x2), some (pv_i 0)]) ⟨Or.inr rfl, Or.inr rfl, Or.inr rfl, Or.inr rfl, trivial⟩ ?_
  refine pm_it_J (α := Int) (β := (Int) ⊕ (Int)) (f := fun a => bdX8_isPairElsewhere_2 b x1 x2 σ a) (P := fun a => pm_J mX8_isPairElsewhere 0 0 LAYC (some (pv_i ρ)) LAYC σ 2 [some (pv_r (b + 22)), some (pv_i x1), some (pv_i x2), some (pv_i a)] [] LAYC σ) (Rx := fun a => match a with | .inl a => pm_J mX8_isPairElsewhere 0 0 LAYC (some (pv_i ρ)) LAYC σ 22 [none, none, none, none] [] LAYC σ | .inr a => pm_J mX8_isPairElsewhere 0 0 LAYC (some (pv_i ρ)) LAYC σ 30 [none, none, none, none] [] LAYC σ) (tbX8_isPairElsewhere_2 hb x1 x2 σ) pm_fuel 0 v5 e6 ?_
  cases v5 with
  | inl v5 =>
    show pm_J mX8_isPairElsewhere 0 0 LAYC (some (pv_i ρ)) LAYC σ 22 [none, none, none, none] [] LAYC σ
    refine pr_iconst dX8_isPairElsewhere_22 ?_
    have h := Option.some.inj h
    subst h
    exact pr_zret dX8_isPairElsewhere_23 rfl (Or.inr rfl)
  | inr v5 =>
    show pm_J mX8_isPairElsewhere 0 0 LAYC (some (pv_i ρ)) LAYC σ 30 [none, none, none, none] [] LAYC σ
    refine pr_iconst dX8_isPairElsewhere_30 ?_
    have h := Option.some.inj h
    subst h
    exact pr_zret dX8_isPairElsewhere_31 rfl (Or.inl rfl)
def bdX8_isPairAtPost_2 (b : Nat) (y1 : Int) (σ : pm_M) (z2 : Int) : Option (((Int) ⊕ (Int)) ⊕ (Int)) :=
  if 3 ≤ (wr z2) then (some (.inl (.inr z2))) else (pm_g (0 ≤ (wr z2) ∧ (wr z2) < 3) (if (wr (σ (b + 23) (Int.toNat (wr z2)))) = (wr y1) then (pm_g (0 ≤ (wr z2) ∧ (wr z2) < 3) (if (wr (σ (b + 25) (Int.toNat (wr z2)))) ≤ 0 then (some (.inr (z2 + 1))) else (some (.inl (.inl z2))))) else (some (.inr (z2 + 1)))))
set_option maxHeartbeats 4000000 in
set_option maxRecDepth 100000 in
theorem tbX8_isPairAtPost_2 {lay0 lay' : List pm_S} {r : Option pm_V} {σ' : pm_M} {b : Nat} (hb : b = 15 ∨ b = 48) (y1 : Int) (σ : pm_M) : ∀ (a : Int) (e : ((Int) ⊕ (Int)) ⊕ (Int)), (fun a => bdX8_isPairAtPost_2 b y1 σ a) a = some e → (∀ a, e = .inr a → (fun a => pm_J mX8_isPairAtPost 0 0 lay0 r lay' σ' 2 [some (pv_r (b + 22)), some (pv_i y1), some (pv_i a)] [] LAYC σ) a) → (∀ a, e = .inl a → (fun a => match a with | .inl a => pm_J mX8_isPairAtPost 0 0 lay0 r lay' σ' 26 [none, none, none] [] LAYC σ | .inr a => pm_J mX8_isPairAtPost 0 0 lay0 r lay' σ' 34 [none, none, none] [] LAYC σ) a) → (fun a => pm_J mX8_isPairAtPost 0 0 lay0 r lay' σ' 2 [some (pv_r (b + 22)), some (pv_i y1), some (pv_i a)] [] LAYC σ) a := by
  intro z2 e h hc hx
  have h : bdX8_isPairAtPost_2 b y1 σ z2 = some e := h
  unfold bdX8_isPairAtPost_2 at h
  show pm_J mX8_isPairAtPost 0 0 lay0 r lay' σ' 2 [some (pv_r (b + 22)), some (pv_i y1), some (pv_i z2)] [] LAYC σ
  refine pr_iload_n dX8_isPairAtPost_2 rfl ?_
  refine pr_iconst dX8_isPairAtPost_3 ?_
  refine pr_icmp_ge (tgt := 34) dX8_isPairAtPost_4 rfl (wr_eq (by decide) (by decide)) (by decide) (fun c_1 => ?_) (fun c_1 => ?_)
  · have h := pm_pos c_1 h
    refine pr_weak (L2 := [none, none, none]) ⟨Or.inl rfl, Or.inl rfl, Or.inl rfl, trivial⟩ ?_
    exact hx (.inr z2) (Option.some.inj h).symm
  · have h := pm_ng c_1 h
    refine pr_aload_n dX8_isPairAtPost_7 rfl ?_
    refine pr_getR dX8_isPairAtPost_8 lk_X8_9 (lw_22 hb) rfl ?_
    refine pr_iload_n dX8_isPairAtPost_11 rfl ?_
    obtain ⟨g_2, h⟩ := pm_gs h
    refine pr_iald dX8_isPairAtPost_12 (lw_23 hb) rfl g_2 ?_
    refine pr_iload_n dX8_isPairAtPost_13 rfl ?_
    refine pr_icmp_ne (tgt := 28) dX8_isPairAtPost_14 rfl rfl (by decide) (fun c_3 => ?_) (fun c_3 => ?_)
    · have h := pm_ng c_3 h
      refine pr_iinc dX8_isPairAtPost_28 rfl (by decide) rfl ?_
      refine pr_goto (tgt := 2) dX8_isPairAtPost_31 (by decide) ?_
      refine pr_weak (L2 := [some (pv_r (b + 22)), some (pv_i y1), some (pv_i (z2 + 1))]) ⟨Or.inr rfl, Or.inr rfl, Or.inr rfl, trivial⟩ ?_
      exact hc (z2 + 1) (Option.some.inj h).symm
    · have h := pm_pos c_3 h
      refine pr_aload_n dX8_isPairAtPost_17 rfl ?_
      refine pr_getR dX8_isPairAtPost_18 lk_X8_18 (lw_22 hb) rfl ?_
      refine pr_iload_n dX8_isPairAtPost_21 rfl ?_
      obtain ⟨g_4, h⟩ := pm_gs h
      refine pr_iald dX8_isPairAtPost_22 (lw_25 hb) rfl g_4 ?_
      refine pr_if_le (tgt := 28) dX8_isPairAtPost_23 rfl (by decide) (fun c_5 => ?_) (fun c_5 => ?_)
      · have h := pm_pos c_5 h
        refine pr_iinc dX8_isPairAtPost_28 rfl (by decide) rfl ?_
        refine pr_goto (tgt := 2) dX8_isPairAtPost_31 (by decide) ?_
        refine pr_weak (L2 := [some (pv_r (b + 22)), some (pv_i y1), some (pv_i (z2 + 1))]) ⟨Or.inr rfl, Or.inr rfl, Or.inr rfl, trivial⟩ ?_
        exact hc (z2 + 1) (Option.some.inj h).symm
      · have h := pm_ng c_5 h
        refine pr_weak (L2 := [none, none, none]) ⟨Or.inl rfl, Or.inl rfl, Or.inl rfl, trivial⟩ ?_
        exact hx (.inl z2) (Option.some.inj h).symm
def fX8_isPairAtPost (b : Nat) (x1 : Int) (σ : pm_M) : Option (Int) :=
  (pm_it (fun a => bdX8_isPairAtPost_2 b x1 σ a) pm_fuel 0).bind fun v6 => match v6 with | .inl v6 => (some 1) | .inr v6 => (some 0)
set_option maxHeartbeats 4000000 in
set_option maxRecDepth 100000 in
theorem tmX8_isPairAtPost {b : Nat} (hb : b = 15 ∨ b = 48) {x1 : Int} {σ : pm_M} {ρ : Int} (h : fX8_isPairAtPost b x1 σ = some ρ) : pm_C mX8_isPairAtPost 0 0 [pv_r (b + 22), pv_i x1] LAYC σ (some (pv_i ρ)) LAYC σ := by
  refine pm_C.of (by decide) rfl (Nat.le_of_ble_eq_true rfl) ?_
  show pm_J mX8_isPairAtPost 0 0 LAYC (some (pv_i ρ)) LAYC σ 0 [some (pv_r (b + 22)), some (pv_i x1), none] [] LAYC σ
  unfold fX8_isPairAtPost at h
  refine pr_iconst dX8_isPairAtPost_0 ?_
  refine pr_istore_n dX8_isPairAtPost_1 (by decide) rfl ?_
  obtain ⟨v6, e7, h⟩ := pm_bs h
  refine pr_weak (L2 := [some (pv_r (b + 22)), some (pv_i x1), some (pv_i 0)]) ⟨Or.inr rfl, Or.inr rfl, Or.inr rfl, trivial⟩ ?_
  refine pm_it_J (α := Int) (β := (Int) ⊕ (Int)) (f := fun a => bdX8_isPairAtPost_2 b x1 σ a) (P := fun a => pm_J mX8_isPairAtPost 0 0 LAYC (some (pv_i ρ)) LAYC σ 2 [some (pv_r (b + 22)), some (pv_i x1), some (pv_i a)] [] LAYC σ) (Rx := fun a => match a with | .inl a => pm_J mX8_isPairAtPost 0 0 LAYC (some (pv_i ρ)) LAYC σ 26 [none, none, none] [] LAYC σ | .inr a => pm_J mX8_isPairAtPost 0 0 LAYC (some (pv_i ρ)) LAYC σ 34 [none, none, none] [] LAYC σ) (tbX8_isPairAtPost_2 hb x1 σ) pm_fuel 0 v6 e7 ?_
  cases v6 with
  | inl v6 =>
    show pm_J mX8_isPairAtPost 0 0 LAYC (some (pv_i ρ)) LAYC σ 26 [none, none, none] [] LAYC σ
    refine pr_iconst dX8_isPairAtPost_26 ?_
    have h := Option.some.inj h
    subst h
    exact pr_zret dX8_isPairAtPost_27 rfl (Or.inr rfl)
  | inr v6 =>
    show pm_J mX8_isPairAtPost 0 0 LAYC (some (pv_i ρ)) LAYC σ 34 [none, none, none] [] LAYC σ
    refine pr_iconst dX8_isPairAtPost_34 ?_
    have h := Option.some.inj h
    subst h
    exact pr_zret dX8_isPairAtPost_35 rfl (Or.inl rfl)
def fX8_canMake (b : Nat) (x1 : Int) (σ : pm_M) : Option (Int) :=
  if 80 ≤ (wr (σ (b + 11) 8)) then (some 0) else (pm_g (0 ≤ (wr x1) ∧ (wr x1) < 3) (pm_g (0 ≤ (wr (σ (b + 24) (Int.toNat (wr x1)))) ∧ (wr (σ (b + 24) (Int.toNat (wr x1)))) < 9) (pm_g (0 ≤ (wr x1) ∧ (wr x1) < 3) (pm_g (0 ≤ (wr (σ (b + 23) (Int.toNat (wr x1)))) ∧ (wr (σ (b + 23) (Int.toNat (wr x1)))) < 4) (if (wr (σ (b + 1) (Int.toNat (wr (σ (b + 24) (Int.toNat (wr x1))))))) < (wr (σ (b + 8) (Int.toNat (wr (σ (b + 23) (Int.toNat (wr x1))))))) then (some 0) else (some 1))))))
set_option maxHeartbeats 4000000 in
set_option maxRecDepth 100000 in
theorem tmX8_canMake {b : Nat} (hb : b = 15 ∨ b = 48) {x1 : Int} {σ : pm_M} {ρ : Int} (h : fX8_canMake b x1 σ = some ρ) : pm_C mX8_canMake 0 0 [pv_r (b + 22), pv_i x1] LAYC σ (some (pv_i ρ)) LAYC σ := by
  refine pm_C.of (by decide) rfl (Nat.le_of_ble_eq_true rfl) ?_
  show pm_J mX8_canMake 0 0 LAYC (some (pv_i ρ)) LAYC σ 0 [some (pv_r (b + 22)), some (pv_i x1)] [] LAYC σ
  unfold fX8_canMake at h
  refine pr_aload_n dX8_canMake_0 rfl ?_
  refine pr_getR dX8_canMake_1 lk_X8_34 (lw_22 hb) rfl ?_
  refine pr_getI dX8_canMake_4 lk_X8_60 (lw_11 hb) rfl ?_
  refine pr_bipush dX8_canMake_7 (by decide) ?_
  refine pr_icmp_ge (tgt := 44) dX8_canMake_9 rfl (wr_eq (by decide) (by decide)) (by decide) (fun c_1 => ?_) (fun c_1 => ?_)
  · have h := pm_pos c_1 h
    refine pr_iconst dX8_canMake_44 ?_
    have h := Option.some.inj h
    subst h
    exact pr_zret dX8_canMake_45 rfl (Or.inl rfl)
  · have h := pm_ng c_1 h
    refine pr_aload_n dX8_canMake_12 rfl ?_
    refine pr_getR dX8_canMake_13 lk_X8_27 (lw_22 hb) rfl ?_
    refine pr_aload_n dX8_canMake_16 rfl ?_
    refine pr_getR dX8_canMake_17 lk_X8_15 (lw_22 hb) rfl ?_
    refine pr_iload_n dX8_canMake_20 rfl ?_
    obtain ⟨g_2, h⟩ := pm_gs h
    refine pr_iald dX8_canMake_21 (lw_24 hb) rfl g_2 ?_
    obtain ⟨g_3, h⟩ := pm_gs h
    refine pr_iald dX8_canMake_22 (lw_1 hb) rfl g_3 ?_
    refine pr_aload_n dX8_canMake_23 rfl ?_
    refine pr_getR dX8_canMake_24 lk_X8_30 (lw_22 hb) rfl ?_
    refine pr_getR dX8_canMake_27 lk_X8_65 (lw_7 hb) rfl ?_
    refine pr_aload_n dX8_canMake_30 rfl ?_
    refine pr_getR dX8_canMake_31 lk_X8_9 (lw_22 hb) rfl ?_
    refine pr_iload_n dX8_canMake_34 rfl ?_
    obtain ⟨g_4, h⟩ := pm_gs h
    refine pr_iald dX8_canMake_35 (lw_23 hb) rfl g_4 ?_
    obtain ⟨g_5, h⟩ := pm_gs h
    refine pr_iald dX8_canMake_36 (lw_8 hb) rfl g_5 ?_
    refine pr_icmp_lt (tgt := 44) dX8_canMake_37 rfl rfl (by decide) (fun c_6 => ?_) (fun c_6 => ?_)
    · have h := pm_pos c_6 h
      refine pr_iconst dX8_canMake_44 ?_
      have h := Option.some.inj h
      subst h
      exact pr_zret dX8_canMake_45 rfl (Or.inl rfl)
    · have h := pm_ng c_6 h
      refine pr_iconst dX8_canMake_40 ?_
      refine pr_goto (tgt := 45) dX8_canMake_41 (by decide) ?_
      have h := Option.some.inj h
      subst h
      exact pr_zret dX8_canMake_45 rfl (Or.inr rfl)
def jnX8_makeSheet_38 (b : Nat) (w1 : Int) (σ : pm_M) : Option (pm_M) :=
  pm_g (0 ≤ (wr w1) ∧ (wr w1) < 3) (pm_g (0 ≤ (wr (σ (b + 24) (Int.toNat (wr w1)))) ∧ (wr (σ (b + 24) (Int.toNat (wr w1)))) < 9) (pm_g (0 ≤ (wr w1) ∧ (wr w1) < 3) (pm_g (0 ≤ (wr (σ (b + 23) (Int.toNat (wr w1)))) ∧ (wr (σ (b + 23) (Int.toNat (wr w1)))) < 4) (pm_g (0 ≤ (wr (σ (b + 24) (Int.toNat (wr w1)))) ∧ (wr (σ (b + 24) (Int.toNat (wr w1)))) < 9) (pm_g (0 ≤ (wr w1) ∧ (wr w1) < 3) (pm_g (0 ≤ (wr w1) ∧ (wr w1) < 3) ((fX3_countSheet b ((2 * ((pm_up σ (b + 1) (Int.toNat (wr (σ (b + 24) (Int.toNat (wr w1))))) ((σ (b + 1) (Int.toNat (wr (σ (b + 24) (Int.toNat (wr w1)))))) - (σ (b + 8) (Int.toNat (wr (σ (b + 23) (Int.toNat (wr w1)))))))) (b + 23) (Int.toNat (wr w1)))) + (Int.tmod (wr ((pm_up σ (b + 1) (Int.toNat (wr (σ (b + 24) (Int.toNat (wr w1))))) ((σ (b + 1) (Int.toNat (wr (σ (b + 24) (Int.toNat (wr w1)))))) - (σ (b + 8) (Int.toNat (wr (σ (b + 23) (Int.toNat (wr w1)))))))) (b + 25) (Int.toNat (wr w1)))) 2)) (pm_up σ (b + 1) (Int.toNat (wr (σ (b + 24) (Int.toNat (wr w1))))) ((σ (b + 1) (Int.toNat (wr (σ (b + 24) (Int.toNat (wr w1)))))) - (σ (b + 8) (Int.toNat (wr (σ (b + 23) (Int.toNat (wr w1))))))))).bind fun q10 => pm_g (0 ≤ (wr w1) ∧ (wr w1) < 3) (pm_g (0 ≤ (wr w1) ∧ (wr w1) < 3) (some (pm_up (pm_up q10 (b + 25) (Int.toNat (wr w1)) ((q10 (b + 25) (Int.toNat (wr w1))) + 1)) (b + 22) 8 (((pm_up q10 (b + 25) (Int.toNat (wr w1)) ((q10 (b + 25) (Int.toNat (wr w1))) + 1)) (b + 22) 8) + 1)))))))))))
set_option maxHeartbeats 4000000 in
set_option maxRecDepth 100000 in
theorem tjX8_makeSheet_38 {lay0 : List pm_S} {b : Nat} (hb : b = 15 ∨ b = 48) {w1 : Int} {σ : pm_M} {ρ : pm_M} (h : jnX8_makeSheet_38 b w1 σ = some ρ) : pm_J mX8_makeSheet 1 60 lay0 none LAYC ρ 38 [some (pv_r (b + 22)), some (pv_i w1)] [] LAYC σ := by
  unfold jnX8_makeSheet_38 at h
  refine pr_aload_n dX8_makeSheet_38 rfl ?_
  refine pr_getR dX8_makeSheet_39 lk_X8_27 (lw_22 hb) rfl ?_
  refine pr_aload_n dX8_makeSheet_42 rfl ?_
  refine pr_getR dX8_makeSheet_43 lk_X8_15 (lw_22 hb) rfl ?_
  refine pr_iload_n dX8_makeSheet_46 rfl ?_
  obtain ⟨g_3, h⟩ := pm_gs h
  refine pr_iald dX8_makeSheet_47 (lw_24 hb) rfl g_3 ?_
  refine pr_dup2 dX8_makeSheet_48 rfl rfl ?_
  obtain ⟨g_4, h⟩ := pm_gs h
  refine pr_iald dX8_makeSheet_49 (lw_1 hb) rfl g_4 ?_
  refine pr_aload_n dX8_makeSheet_50 rfl ?_
  refine pr_getR dX8_makeSheet_51 lk_X8_30 (lw_22 hb) rfl ?_
  refine pr_getR dX8_makeSheet_54 lk_X8_65 (lw_7 hb) rfl ?_
  refine pr_aload_n dX8_makeSheet_57 rfl ?_
  refine pr_getR dX8_makeSheet_58 lk_X8_9 (lw_22 hb) rfl ?_
  refine pr_iload_n dX8_makeSheet_61 rfl ?_
  obtain ⟨g_5, h⟩ := pm_gs h
  refine pr_iald dX8_makeSheet_62 (lw_23 hb) rfl g_5 ?_
  obtain ⟨g_6, h⟩ := pm_gs h
  refine pr_iald dX8_makeSheet_63 (lw_8 hb) rfl g_6 ?_
  refine pr_isub dX8_makeSheet_64 ?_
  obtain ⟨g_7, h⟩ := pm_gs h
  refine pr_iast dX8_makeSheet_65 (lw_1 hb) rfl g_7 ?_
  refine pr_aload_n dX8_makeSheet_66 rfl ?_
  refine pr_getR dX8_makeSheet_67 lk_X8_30 (lw_22 hb) rfl ?_
  refine pr_iconst dX8_makeSheet_70 ?_
  refine pr_aload_n dX8_makeSheet_71 rfl ?_
  refine pr_getR dX8_makeSheet_72 lk_X8_9 (lw_22 hb) rfl ?_
  refine pr_iload_n dX8_makeSheet_75 rfl ?_
  obtain ⟨g_8, h⟩ := pm_gs h
  refine pr_iald dX8_makeSheet_76 (lw_23 hb) rfl g_8 ?_
  refine pr_imul dX8_makeSheet_77 ?_
  refine pr_aload_n dX8_makeSheet_78 rfl ?_
  refine pr_getR dX8_makeSheet_79 lk_X8_18 (lw_22 hb) rfl ?_
  refine pr_iload_n dX8_makeSheet_82 rfl ?_
  obtain ⟨g_9, h⟩ := pm_gs h
  refine pr_iald dX8_makeSheet_83 (lw_25 hb) rfl g_9 ?_
  refine pr_iconst dX8_makeSheet_84 ?_
  refine pr_irem dX8_makeSheet_85 rfl (wr_eq (by decide) (by decide)) (by decide) ?_
  refine pr_iadd dX8_makeSheet_86 ?_
  obtain ⟨q10, e11, h⟩ := pm_bs h
  refine pr_callV (As := [pv_i ((2 * ((pm_up σ (b + 1) (Int.toNat (wr (σ (b + 24) (Int.toNat (wr w1))))) ((σ (b + 1) (Int.toNat (wr (σ (b + 24) (Int.toNat (wr w1)))))) - (σ (b + 8) (Int.toNat (wr (σ (b + 23) (Int.toNat (wr w1)))))))) (b + 23) (Int.toNat (wr w1)))) + (Int.tmod (wr ((pm_up σ (b + 1) (Int.toNat (wr (σ (b + 24) (Int.toNat (wr w1))))) ((σ (b + 1) (Int.toNat (wr (σ (b + 24) (Int.toNat (wr w1)))))) - (σ (b + 8) (Int.toNat (wr (σ (b + 23) (Int.toNat (wr w1)))))))) (b + 25) (Int.toNat (wr w1)))) 2))]) (S := []) (t := (b + 7)) dX8_makeSheet_87 mk_X8_86 (lw_7 hb) (ci := 3) (q := (RX3, TX3, 4)) rfl rfl rfl rfl (Nat.le_of_ble_eq_true rfl) (by decide) (by decide) (Or.inl rfl) (tmX3_countSheet hb e11) ?_
  refine pr_aload_n dX8_makeSheet_90 rfl ?_
  refine pr_getR dX8_makeSheet_91 lk_X8_18 (lw_22 hb) rfl ?_
  refine pr_iload_n dX8_makeSheet_94 rfl ?_
  refine pr_dup2 dX8_makeSheet_95 rfl rfl ?_
  obtain ⟨g_12, h⟩ := pm_gs h
  refine pr_iald dX8_makeSheet_96 (lw_25 hb) rfl g_12 ?_
  refine pr_iconst dX8_makeSheet_97 ?_
  refine pr_iadd dX8_makeSheet_98 ?_
  obtain ⟨g_13, h⟩ := pm_gs h
  refine pr_iast dX8_makeSheet_99 (lw_25 hb) rfl g_13 ?_
  refine pr_aload_n dX8_makeSheet_100 rfl ?_
  refine pr_dup dX8_makeSheet_101 rfl ?_
  refine pr_getI dX8_makeSheet_102 lk_X8_48 (lw_22 hb) rfl ?_
  refine pr_iconst dX8_makeSheet_105 ?_
  refine pr_iadd dX8_makeSheet_106 ?_
  refine pr_putI dX8_makeSheet_107 lp_X8_48 (lw_22 hb) rfl ?_
  have h := Option.some.inj h
  subst h
  exact pr_vret dX8_makeSheet_110 rfl
def fX8_makeSheet (b : Nat) (x1 : Int) (σ : pm_M) : Option (pm_M) :=
  pm_g (0 ≤ (wr x1) ∧ (wr x1) < 3) (if (wr (σ (b + 25) (Int.toNat (wr x1)))) = 0 then (pm_g (0 ≤ (wr x1) ∧ (wr x1) < 3) (pm_g ((0 : Int) ≤ (wr ((σ (b + 23) (Int.toNat (wr x1))) * 12)) ∧ (0 : Int) ≤ (wr (x1 * 12)) ∧ (0 : Int) ≤ 12 ∧ (wr ((σ (b + 23) (Int.toNat (wr x1))) * 12)) + 12 ≤ 48 ∧ (wr (x1 * 12)) + 12 ≤ 36) (jnX8_makeSheet_38 b x1 (pm_cp σ (b + 9) (Int.toNat (wr ((σ (b + 23) (Int.toNat (wr x1))) * 12))) (b + 27) (Int.toNat (wr (x1 * 12))) (Int.toNat 12))))) else (jnX8_makeSheet_38 b x1 σ))
set_option maxHeartbeats 4000000 in
set_option maxRecDepth 100000 in
theorem tmX8_makeSheet {b : Nat} (hb : b = 15 ∨ b = 48) {x1 : Int} {σ : pm_M} {ρ : pm_M} (h : fX8_makeSheet b x1 σ = some ρ) : pm_C mX8_makeSheet 1 60 [pv_r (b + 22), pv_i x1] LAYC σ none LAYC ρ := by
  refine pm_C.of (by decide) rfl (Nat.le_of_ble_eq_true rfl) ?_
  show pm_J mX8_makeSheet 1 60 LAYC none LAYC ρ 0 [some (pv_r (b + 22)), some (pv_i x1)] [] LAYC σ
  unfold fX8_makeSheet at h
  refine pr_aload_n dX8_makeSheet_0 rfl ?_
  refine pr_getR dX8_makeSheet_1 lk_X8_18 (lw_22 hb) rfl ?_
  refine pr_iload_n dX8_makeSheet_4 rfl ?_
  obtain ⟨g_1, h⟩ := pm_gs h
  refine pr_iald dX8_makeSheet_5 (lw_25 hb) rfl g_1 ?_
  refine pr_if_ne (tgt := 38) dX8_makeSheet_6 rfl (by decide) (fun c_2 => ?_) (fun c_2 => ?_)
  · have h := pm_ng c_2 h
    refine pr_weak (L2 := [some (pv_r (b + 22)), some (pv_i x1)]) ⟨Or.inr rfl, Or.inr rfl, trivial⟩ ?_
    exact tjX8_makeSheet_38 hb h
  · have h := pm_pos c_2 h
    refine pr_aload_n dX8_makeSheet_9 rfl ?_
    refine pr_getR dX8_makeSheet_10 lk_X8_30 (lw_22 hb) rfl ?_
    refine pr_getR dX8_makeSheet_13 lk_X8_77 (lw_7 hb) rfl ?_
    refine pr_aload_n dX8_makeSheet_16 rfl ?_
    refine pr_getR dX8_makeSheet_17 lk_X8_9 (lw_22 hb) rfl ?_
    refine pr_iload_n dX8_makeSheet_20 rfl ?_
    obtain ⟨g_14, h⟩ := pm_gs h
    refine pr_iald dX8_makeSheet_21 (lw_23 hb) rfl g_14 ?_
    refine pr_bipush dX8_makeSheet_22 (by decide) ?_
    refine pr_imul dX8_makeSheet_24 ?_
    refine pr_aload_n dX8_makeSheet_25 rfl ?_
    refine pr_getR dX8_makeSheet_26 lk_X8_24 (lw_22 hb) rfl ?_
    refine pr_iload_n dX8_makeSheet_29 rfl ?_
    refine pr_bipush dX8_makeSheet_30 (by decide) ?_
    refine pr_imul dX8_makeSheet_32 ?_
    refine pr_bipush dX8_makeSheet_33 (by decide) ?_
    obtain ⟨g_15, h⟩ := pm_gs h
    refine pr_acopy dX8_makeSheet_35 ac_X8_80 (lw_9 hb) (lw_27 hb) rfl rfl (wr_eq (by decide) (by decide)) g_15 (by decide) (Nat.le_of_ble_eq_true rfl) ?_
    refine pr_weak (L2 := [some (pv_r (b + 22)), some (pv_i x1)]) ⟨Or.inr rfl, Or.inr rfl, trivial⟩ ?_
    exact tjX8_makeSheet_38 hb h
