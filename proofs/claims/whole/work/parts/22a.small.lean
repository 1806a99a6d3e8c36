def fX0_copyFrom (σ : pm_M) : Option (pm_M) :=
  (fX11_copyRow 18 4 51 4 σ).bind fun q1 => (fX11_copyRow 19 4 52 4 q1).bind fun q3 => (fX11_copyRow 20 4 53 4 q3).bind fun q5 => (fX11_copyRow 21 4 54 4 q5).bind fun q7 => some q7
set_option maxHeartbeats 4000000 in
set_option maxRecDepth 100000 in
theorem tmX0_copyFrom {σ : pm_M} {ρ : pm_M} (h : fX0_copyFrom σ = some ρ) : pm_C mX0_copyFrom 2 81 [pv_r 50, pv_r 17] LAYC σ none LAYC ρ := by
  refine pm_C.of (by decide) rfl (Nat.le_of_ble_eq_true rfl) ?_
  show pm_J mX0_copyFrom 2 81 LAYC none LAYC ρ 0 [some (pv_r 50), some (pv_r 17)] [] LAYC σ
  unfold fX0_copyFrom at h
  refine pr_aload_n dX0_copyFrom_0 rfl ?_
  refine pr_getR dX0_copyFrom_1 lk_X0_9 lc_17 rfl ?_
  refine pr_aload_n dX0_copyFrom_4 rfl ?_
  refine pr_getR dX0_copyFrom_5 lk_X0_9 lc_50 rfl ?_
  obtain ⟨q1, e2, h⟩ := pm_bs h
  refine pr_callSN (av := [pv_r 18, pv_r 51]) (S := []) dX0_copyFrom_8 mk_X0_24 rfl rfl (Nat.le_of_ble_eq_true rfl) (by decide) (by decide) (Or.inl rfl) (tmX11_copyRow lc_18 lc_51 e2) ?_
  refine pr_aload_n dX0_copyFrom_11 rfl ?_
  refine pr_getR dX0_copyFrom_12 lk_X0_15 lc_17 rfl ?_
  refine pr_aload_n dX0_copyFrom_15 rfl ?_
  refine pr_getR dX0_copyFrom_16 lk_X0_15 lc_50 rfl ?_
  obtain ⟨q3, e4, h⟩ := pm_bs h
  refine pr_callSN (av := [pv_r 19, pv_r 52]) (S := []) dX0_copyFrom_19 mk_X0_24 rfl rfl (Nat.le_of_ble_eq_true rfl) (by decide) (by decide) (Or.inl rfl) (tmX11_copyRow lc_19 lc_52 e4) ?_
  refine pr_aload_n dX0_copyFrom_22 rfl ?_
  refine pr_getR dX0_copyFrom_23 lk_X0_18 lc_17 rfl ?_
  refine pr_aload_n dX0_copyFrom_26 rfl ?_
  refine pr_getR dX0_copyFrom_27 lk_X0_18 lc_50 rfl ?_
  obtain ⟨q5, e6, h⟩ := pm_bs h
  refine pr_callSN (av := [pv_r 20, pv_r 53]) (S := []) dX0_copyFrom_30 mk_X0_24 rfl rfl (Nat.le_of_ble_eq_true rfl) (by decide) (by decide) (Or.inl rfl) (tmX11_copyRow lc_20 lc_53 e6) ?_
  refine pr_aload_n dX0_copyFrom_33 rfl ?_
  refine pr_getR dX0_copyFrom_34 lk_X0_21 lc_17 rfl ?_
  refine pr_aload_n dX0_copyFrom_37 rfl ?_
  refine pr_getR dX0_copyFrom_38 lk_X0_21 lc_50 rfl ?_
  obtain ⟨q7, e8, h⟩ := pm_bs h
  refine pr_callSN (av := [pv_r 21, pv_r 54]) (S := []) dX0_copyFrom_41 mk_X0_24 rfl rfl (Nat.le_of_ble_eq_true rfl) (by decide) (by decide) (Or.inl rfl) (tmX11_copyRow lc_21 lc_54 e8) ?_
  have h := Option.some.inj h
  subst h
  exact pr_vret dX0_copyFrom_44 rfl
def fX0_isEmpty (b : Nat) (x1 : Int) (σ : pm_M) : Option (Int) :=
  pm_g (0 ≤ (wr x1) ∧ (wr x1) < 4) (if (wr (σ (b + 3) (Int.toNat (wr x1)))) = 0 then (some 1) else (some 0))
set_option maxHeartbeats 4000000 in
set_option maxRecDepth 100000 in
theorem tmX0_isEmpty {b : Nat} (hb : b = 15 ∨ b = 48) {x1 : Int} {σ : pm_M} {ρ : Int} (h : fX0_isEmpty b x1 σ = some ρ) : pm_C mX0_isEmpty 0 0 [pv_r (b + 2), pv_i x1] LAYC σ (some (pv_i ρ)) LAYC σ := by
  refine pm_C.of (by decide) rfl (Nat.le_of_ble_eq_true rfl) ?_
  show pm_J mX0_isEmpty 0 0 LAYC (some (pv_i ρ)) LAYC σ 0 [some (pv_r (b + 2)), some (pv_i x1)] [] LAYC σ
  unfold fX0_isEmpty at h
  refine pr_aload_n dX0_isEmpty_0 rfl ?_
  refine pr_getR dX0_isEmpty_1 lk_X0_9 (lw_2 hb) rfl ?_
  refine pr_iload_n dX0_isEmpty_4 rfl ?_
  obtain ⟨g_1, h⟩ := pm_gs h
  refine pr_iald dX0_isEmpty_5 (lw_3 hb) rfl g_1 ?_
  refine pr_if_ne (tgt := 13) dX0_isEmpty_6 rfl (by decide) (fun c_2 => ?_) (fun c_2 => ?_)
  · have h := pm_ng c_2 h
    refine pr_iconst dX0_isEmpty_13 ?_
    have h := Option.some.inj h
    subst h
    exact pr_zret dX0_isEmpty_14 rfl (Or.inl rfl)
  · have h := pm_pos c_2 h
    refine pr_iconst dX0_isEmpty_9 ?_
    refine pr_goto (tgt := 14) dX0_isEmpty_10 (by decide) ?_
    have h := Option.some.inj h
    subst h
    exact pr_zret dX0_isEmpty_14 rfl (Or.inr rfl)
def fX0_take (b : Nat) (x1 : Int) (x2 : Int) (x3 : Int) (x4 : Int) (σ : pm_M) : Option (pm_M) :=
  pm_g (0 ≤ (wr x1) ∧ (wr x1) < 4) (pm_g (0 ≤ (wr x1) ∧ (wr x1) < 4) (pm_g (0 ≤ (wr x1) ∧ (wr x1) < 4) (some (pm_up (pm_up (pm_up σ (b + 4) (Int.toNat (wr x1)) x2) (b + 3) (Int.toNat (wr x1)) x3) (b + 5) (Int.toNat (wr x1)) x4))))
set_option maxHeartbeats 4000000 in
set_option maxRecDepth 100000 in
theorem tmX0_take {b : Nat} (hb : b = 15 ∨ b = 48) {x1 : Int} {x2 : Int} {x3 : Int} {x4 : Int} {σ : pm_M} {ρ : pm_M} (h : fX0_take b x1 x2 x3 x4 σ = some ρ) : pm_C mX0_take 0 0 [pv_r (b + 2), pv_i x1, pv_i x2, pv_i x3, pv_i x4] LAYC σ none LAYC ρ := by
  refine pm_C.of (by decide) rfl (Nat.le_of_ble_eq_true rfl) ?_
  show pm_J mX0_take 0 0 LAYC none LAYC ρ 0 [some (pv_r (b + 2)), some (pv_i x1), some (pv_i x2), some (pv_i x3), some (pv_i x4)] [] LAYC σ
  unfold fX0_take at h
  refine pr_aload_n dX0_take_0 rfl ?_
  refine pr_getR dX0_take_1 lk_X0_15 (lw_2 hb) rfl ?_
  refine pr_iload_n dX0_take_4 rfl ?_
  refine pr_iload_n dX0_take_5 rfl ?_
  obtain ⟨g_1, h⟩ := pm_gs h
  refine pr_iast dX0_take_6 (lw_4 hb) rfl g_1 ?_
  refine pr_aload_n dX0_take_7 rfl ?_
  refine pr_getR dX0_take_8 lk_X0_9 (lw_2 hb) rfl ?_
  refine pr_iload_n dX0_take_11 rfl ?_
  refine pr_iload_n dX0_take_12 rfl ?_
  obtain ⟨g_2, h⟩ := pm_gs h
  refine pr_iast dX0_take_13 (lw_3 hb) rfl g_2 ?_
  refine pr_aload_n dX0_take_14 rfl ?_
  refine pr_getR dX0_take_15 lk_X0_18 (lw_2 hb) rfl ?_
  refine pr_iload_n dX0_take_18 rfl ?_
  refine pr_iload dX0_take_19 rfl ?_
  obtain ⟨g_3, h⟩ := pm_gs h
  refine pr_iast dX0_take_21 (lw_5 hb) rfl g_3 ?_
  have h := Option.some.inj h
  subst h
  exact pr_vret dX0_take_22 rfl
def fX0_end (b : Nat) (x1 : Int) (σ : pm_M) : Option (pm_M) :=
  pm_g (0 ≤ (wr x1) ∧ (wr x1) < 4) (pm_g (0 ≤ (wr (σ (b + 4) (Int.toNat (wr x1)))) ∧ (wr (σ (b + 4) (Int.toNat (wr x1)))) < 9) (pm_g (0 ≤ (wr x1) ∧ (wr x1) < 4) (pm_g (0 ≤ (wr (σ (b + 4) (Int.toNat (wr x1)))) ∧ (wr (σ (b + 4) (Int.toNat (wr x1)))) < 9) (pm_g (0 ≤ (wr x1) ∧ (wr x1) < 4) (pm_g (0 ≤ (wr x1) ∧ (wr x1) < 4) (pm_g (0 ≤ (wr x1) ∧ (wr x1) < 4) (some (pm_up (pm_up (pm_up σ (b + 1) (Int.toNat (wr (σ (b + 4) (Int.toNat (wr x1))))) ((σ (b + 1) (Int.toNat (wr (σ (b + 4) (Int.toNat (wr x1)))))) + (14 * (σ (b + 3) (Int.toNat (wr x1)))))) (b + 3) (Int.toNat (wr x1)) 0) (b + 6) (Int.toNat (wr x1)) (((pm_up (pm_up σ (b + 1) (Int.toNat (wr (σ (b + 4) (Int.toNat (wr x1))))) ((σ (b + 1) (Int.toNat (wr (σ (b + 4) (Int.toNat (wr x1)))))) + (14 * (σ (b + 3) (Int.toNat (wr x1)))))) (b + 3) (Int.toNat (wr x1)) 0) (b + 6) (Int.toNat (wr x1))) + 1)))))))))
set_option maxHeartbeats 4000000 in
set_option maxRecDepth 100000 in
theorem tmX0_end {b : Nat} (hb : b = 15 ∨ b = 48) {x1 : Int} {σ : pm_M} {ρ : pm_M} (h : fX0_end b x1 σ = some ρ) : pm_C mX0_end 0 0 [pv_r (b + 2), pv_i x1, pv_r (b + 1)] LAYC σ none LAYC ρ := by
  refine pm_C.of (by decide) rfl (Nat.le_of_ble_eq_true rfl) ?_
  show pm_J mX0_end 0 0 LAYC none LAYC ρ 0 [some (pv_r (b + 2)), some (pv_i x1), some (pv_r (b + 1))] [] LAYC σ
  unfold fX0_end at h
  refine pr_aload_n dX0_end_0 rfl ?_
  refine pr_aload_n dX0_end_1 rfl ?_
  refine pr_getR dX0_end_2 lk_X0_15 (lw_2 hb) rfl ?_
  refine pr_iload_n dX0_end_5 rfl ?_
  obtain ⟨g_1, h⟩ := pm_gs h
  refine pr_iald dX0_end_6 (lw_4 hb) rfl g_1 ?_
  refine pr_dup2 dX0_end_7 rfl rfl ?_
  obtain ⟨g_2, h⟩ := pm_gs h
  refine pr_iald dX0_end_8 (lw_1 hb) rfl g_2 ?_
  refine pr_bipush dX0_end_9 (by decide) ?_
  refine pr_aload_n dX0_end_11 rfl ?_
  refine pr_getR dX0_end_12 lk_X0_9 (lw_2 hb) rfl ?_
  refine pr_iload_n dX0_end_15 rfl ?_
  obtain ⟨g_3, h⟩ := pm_gs h
  refine pr_iald dX0_end_16 (lw_3 hb) rfl g_3 ?_
  refine pr_imul dX0_end_17 ?_
  refine pr_iadd dX0_end_18 ?_
  obtain ⟨g_4, h⟩ := pm_gs h
  refine pr_iast dX0_end_19 (lw_1 hb) rfl g_4 ?_
  refine pr_aload_n dX0_end_20 rfl ?_
  refine pr_getR dX0_end_21 lk_X0_9 (lw_2 hb) rfl ?_
  refine pr_iload_n dX0_end_24 rfl ?_
  refine pr_iconst dX0_end_25 ?_
  obtain ⟨g_5, h⟩ := pm_gs h
  refine pr_iast dX0_end_26 (lw_3 hb) rfl g_5 ?_
  refine pr_aload_n dX0_end_27 rfl ?_
  refine pr_getR dX0_end_28 lk_X0_21 (lw_2 hb) rfl ?_
  refine pr_iload_n dX0_end_31 rfl ?_
  refine pr_dup2 dX0_end_32 rfl rfl ?_
  obtain ⟨g_6, h⟩ := pm_gs h
  refine pr_iald dX0_end_33 (lw_6 hb) rfl g_6 ?_
  refine pr_iconst dX0_end_34 ?_
  refine pr_iadd dX0_end_35 ?_
  obtain ⟨g_7, h⟩ := pm_gs h
  refine pr_iast dX0_end_36 (lw_6 hb) rfl g_7 ?_
  have h := Option.some.inj h
  subst h
  exact pr_vret dX0_end_37 rfl
def bdX0_work_5 (b : Nat) (z3 : Int) (z4 : Int) (σ : pm_M) : Option ((Int × Int × pm_M) ⊕ (Int × Int × pm_M)) :=
  if 4 ≤ (wr z4) then (some (.inl (z3, z4, σ))) else ((fX0_isEmpty b z4 σ).bind fun q2 => if (wr q2) = 0 then (if (wr z3) < 6 then (some (.inr (z3, (z4 + 1), σ))) else (pm_g (0 ≤ (wr z4) ∧ (wr z4) < 4) (pm_g (0 ≤ (wr z4) ∧ (wr z4) < 4) (pm_g (0 ≤ (wr z4) ∧ (wr z4) < 4) (if (wr ((pm_up σ (b + 5) (Int.toNat (wr z4)) ((σ (b + 5) (Int.toNat (wr z4))) - 1)) (b + 5) (Int.toNat (wr z4)))) = 0 then ((fX0_end b z4 (pm_up σ (b + 5) (Int.toNat (wr z4)) ((σ (b + 5) (Int.toNat (wr z4))) - 1))).bind fun q10 => some (.inr ((z3 + (-6)), (z4 + 1), q10))) else (some (.inr ((z3 + (-6)), (z4 + 1), (pm_up σ (b + 5) (Int.toNat (wr z4)) ((σ (b + 5) (Int.toNat (wr z4))) - 1)))))))))) else (some (.inr (z3, (z4 + 1), σ))))
set_option maxHeartbeats 4000000 in
set_option maxRecDepth 100000 in
theorem tbX0_work_5 {lay0 lay' : List pm_S} {r : Option pm_V} {σ' : pm_M} {b : Nat} (hb : b = 15 ∨ b = 48) : ∀ (a : Int × Int × pm_M) (e : (Int × Int × pm_M) ⊕ (Int × Int × pm_M)), (fun a => bdX0_work_5 b a.1 a.2.1 a.2.2) a = some e → (∀ a, e = .inr a → (fun a => pm_J mX0_work 1 22 lay0 r lay' σ' 5 [some (pv_r (b + 2)), none, some (pv_r (b + 1)), some (pv_i a.1), some (pv_i a.2.1)] [] LAYC a.2.2) a) → (∀ a, e = .inl a → (fun a => pm_J mX0_work 1 22 lay0 r lay' σ' 63 [none, none, none, some (pv_i a.1), none] [] LAYC a.2.2) a) → (fun a => pm_J mX0_work 1 22 lay0 r lay' σ' 5 [some (pv_r (b + 2)), none, some (pv_r (b + 1)), some (pv_i a.1), some (pv_i a.2.1)] [] LAYC a.2.2) a := by
  intro a e h hc hx
  obtain ⟨z3, z4, σ⟩ := a
  have h : bdX0_work_5 b z3 z4 σ = some e := h
  unfold bdX0_work_5 at h
  show pm_J mX0_work 1 22 lay0 r lay' σ' 5 [some (pv_r (b + 2)), none, some (pv_r (b + 1)), some (pv_i z3), some (pv_i z4)] [] LAYC σ
  refine pr_iload dX0_work_5 rfl ?_
  refine pr_iconst dX0_work_7 ?_
  refine pr_icmp_ge (tgt := 63) dX0_work_8 rfl (wr_eq (by decide) (by decide)) (by decide) (fun c_1 => ?_) (fun c_1 => ?_)
  · have h := pm_pos c_1 h
    refine pr_weak (L2 := [none, none, none, some (pv_i z3), none]) ⟨Or.inl rfl, Or.inl rfl, Or.inl rfl, Or.inr rfl, Or.inl rfl, trivial⟩ ?_
    exact hx (z3, z4, σ) (Option.some.inj h).symm
  · have h := pm_ng c_1 h
    refine pr_aload_n dX0_work_11 rfl ?_
    refine pr_iload dX0_work_12 rfl ?_
    obtain ⟨q2, e3, h⟩ := pm_bs h
    refine pr_callV (As := [pv_i z4]) (S := []) (t := (b + 2)) dX0_work_14 mk_X0_28 (lw_2 hb) (ci := 0) (q := (RX0, TX0, 4)) rfl rfl rfl rfl (Nat.le_of_ble_eq_true rfl) (by decide) (by decide) (Or.inl rfl) (tmX0_isEmpty hb e3) ?_
    refine pr_if_ne (tgt := 57) dX0_work_17 rfl (by decide) (fun c_4 => ?_) (fun c_4 => ?_)
    · have h := pm_ng c_4 h
      refine pr_iinc dX0_work_57 rfl (by decide) rfl ?_
      refine pr_goto (tgt := 5) dX0_work_60 (by decide) ?_
      refine pr_weak (L2 := [some (pv_r (b + 2)), none, some (pv_r (b + 1)), some (pv_i z3), some (pv_i (z4 + 1))]) ⟨Or.inr rfl, Or.inl rfl, Or.inr rfl, Or.inr rfl, Or.inr rfl, trivial⟩ ?_
      exact hc (z3, (z4 + 1), σ) (Option.some.inj h).symm
    · have h := pm_pos c_4 h
      refine pr_iload_n dX0_work_20 rfl ?_
      refine pr_bipush dX0_work_21 (by decide) ?_
      refine pr_icmp_lt (tgt := 57) dX0_work_23 rfl (wr_eq (by decide) (by decide)) (by decide) (fun c_5 => ?_) (fun c_5 => ?_)
      · have h := pm_pos c_5 h
        refine pr_iinc dX0_work_57 rfl (by decide) rfl ?_
        refine pr_goto (tgt := 5) dX0_work_60 (by decide) ?_
        refine pr_weak (L2 := [some (pv_r (b + 2)), none, some (pv_r (b + 1)), some (pv_i z3), some (pv_i (z4 + 1))]) ⟨Or.inr rfl, Or.inl rfl, Or.inr rfl, Or.inr rfl, Or.inr rfl, trivial⟩ ?_
        exact hc (z3, (z4 + 1), σ) (Option.some.inj h).symm
      · have h := pm_ng c_5 h
        refine pr_iinc dX0_work_26 rfl (by decide) rfl ?_
        refine pr_aload_n dX0_work_29 rfl ?_
        refine pr_getR dX0_work_30 lk_X0_18 (lw_2 hb) rfl ?_
        refine pr_iload dX0_work_33 rfl ?_
        refine pr_dup2 dX0_work_35 rfl rfl ?_
        obtain ⟨g_6, h⟩ := pm_gs h
        refine pr_iald dX0_work_36 (lw_5 hb) rfl g_6 ?_
        refine pr_iconst dX0_work_37 ?_
        refine pr_isub dX0_work_38 ?_
        obtain ⟨g_7, h⟩ := pm_gs h
        refine pr_iast dX0_work_39 (lw_5 hb) rfl g_7 ?_
        refine pr_aload_n dX0_work_40 rfl ?_
        refine pr_getR dX0_work_41 lk_X0_18 (lw_2 hb) rfl ?_
        refine pr_iload dX0_work_44 rfl ?_
        obtain ⟨g_8, h⟩ := pm_gs h
        refine pr_iald dX0_work_46 (lw_5 hb) rfl g_8 ?_
        refine pr_if_ne (tgt := 57) dX0_work_47 rfl (by decide) (fun c_9 => ?_) (fun c_9 => ?_)
        · have h := pm_ng c_9 h
          refine pr_iinc dX0_work_57 rfl (by decide) rfl ?_
          refine pr_goto (tgt := 5) dX0_work_60 (by decide) ?_
          refine pr_weak (L2 := [some (pv_r (b + 2)), none, some (pv_r (b + 1)), some (pv_i (z3 + (-6))), some (pv_i (z4 + 1))]) ⟨Or.inr rfl, Or.inl rfl, Or.inr rfl, Or.inr rfl, Or.inr rfl, trivial⟩ ?_
          exact hc ((z3 + (-6)), (z4 + 1), (pm_up σ (b + 5) (Int.toNat (wr z4)) ((σ (b + 5) (Int.toNat (wr z4))) - 1))) (Option.some.inj h).symm
        · have h := pm_pos c_9 h
          refine pr_aload_n dX0_work_50 rfl ?_
          refine pr_iload dX0_work_51 rfl ?_
          refine pr_aload_n dX0_work_53 rfl ?_
          obtain ⟨q10, e11, h⟩ := pm_bs h
          refine pr_callV (As := [pv_i z4, pv_r (b + 1)]) (S := []) (t := (b + 2)) dX0_work_54 mk_X0_32 (lw_2 hb) (ci := 0) (q := (RX0, TX0, 4)) rfl rfl rfl rfl (Nat.le_of_ble_eq_true rfl) (by decide) (by decide) (Or.inl rfl) (tmX0_end hb e11) ?_
          refine pr_iinc dX0_work_57 rfl (by decide) rfl ?_
          refine pr_goto (tgt := 5) dX0_work_60 (by decide) ?_
          refine pr_weak (L2 := [some (pv_r (b + 2)), none, some (pv_r (b + 1)), some (pv_i (z3 + (-6))), some (pv_i (z4 + 1))]) ⟨Or.inr rfl, Or.inl rfl, Or.inr rfl, Or.inr rfl, Or.inr rfl, trivial⟩ ?_
          exact hc ((z3 + (-6)), (z4 + 1), q10) (Option.some.inj h).symm
def fX0_work (b : Nat) (x1 : Int) (σ : pm_M) : Option (Int × pm_M) :=
  (pm_it (fun a => bdX0_work_5 b a.1 a.2.1 a.2.2) pm_fuel (x1, 0, σ)).bind fun v12 => some (v12.1, v12.2.2)
set_option maxHeartbeats 4000000 in
set_option maxRecDepth 100000 in
theorem tmX0_work {b : Nat} (hb : b = 15 ∨ b = 48) {x1 : Int} {σ : pm_M} {ρ : Int × pm_M} (h : fX0_work b x1 σ = some ρ) : pm_C mX0_work 1 22 [pv_r (b + 2), pv_i x1, pv_r (b + 1)] LAYC σ (some (pv_i ρ.1)) LAYC ρ.2 := by
  refine pm_C.of (by decide) rfl (Nat.le_of_ble_eq_true rfl) ?_
  show pm_J mX0_work 1 22 LAYC (some (pv_i ρ.1)) LAYC ρ.2 0 [some (pv_r (b + 2)), some (pv_i x1), some (pv_r (b + 1)), none, none] [] LAYC σ
  unfold fX0_work at h
  refine pr_iload_n dX0_work_0 rfl ?_
  refine pr_istore_n dX0_work_1 (by decide) rfl ?_
  refine pr_iconst dX0_work_2 ?_
  refine pr_istore dX0_work_3 (by decide) rfl ?_
  obtain ⟨v12, e13, h⟩ := pm_bs h
  refine pr_weak (L2 := [some (pv_r (b + 2)), none, some (pv_r (b + 1)), some (pv_i x1), some (pv_i 0)]) ⟨Or.inr rfl, Or.inl rfl, Or.inr rfl, Or.inr rfl, Or.inr rfl, trivial⟩ ?_
  refine pm_it_J (α := Int × Int × pm_M) (β := Int × Int × pm_M) (f := fun a => bdX0_work_5 b a.1 a.2.1 a.2.2) (P := fun a => pm_J mX0_work 1 22 LAYC (some (pv_i ρ.1)) LAYC ρ.2 5 [some (pv_r (b + 2)), none, some (pv_r (b + 1)), some (pv_i a.1), some (pv_i a.2.1)] [] LAYC a.2.2) (Rx := fun a => pm_J mX0_work 1 22 LAYC (some (pv_i ρ.1)) LAYC ρ.2 63 [none, none, none, some (pv_i a.1), none] [] LAYC a.2.2) (tbX0_work_5 hb) pm_fuel (x1, 0, σ) v12 e13 ?_
  show pm_J mX0_work 1 22 LAYC (some (pv_i ρ.1)) LAYC ρ.2 63 [none, none, none, some (pv_i v12.1), none] [] LAYC v12.2.2
  refine pr_iload_n dX0_work_63 rfl ?_
  have h := Option.some.inj h
  subst h
  exact pr_iret dX0_work_64 rfl
def fX3_copyFrom (σ : pm_M) : Option (pm_M) :=
  (fX11_copyRow 23 4 56 4 σ).bind fun q1 => (fX11_copyRow 24 48 57 48 q1).bind fun q3 => (fX11_copyRow 25 8 58 8 q3).bind fun q5 => some (pm_up q5 55 3 (q5 22 3))
set_option maxHeartbeats 4000000 in
set_option maxRecDepth 100000 in
theorem tmX3_copyFrom {σ : pm_M} {ρ : pm_M} (h : fX3_copyFrom σ = some ρ) : pm_C mX3_copyFrom 2 81 [pv_r 55, pv_r 22] LAYC σ none LAYC ρ := by
  refine pm_C.of (by decide) rfl (Nat.le_of_ble_eq_true rfl) ?_
  show pm_J mX3_copyFrom 2 81 LAYC none LAYC ρ 0 [some (pv_r 55), some (pv_r 22)] [] LAYC σ
  unfold fX3_copyFrom at h
  refine pr_aload_n dX3_copyFrom_0 rfl ?_
  refine pr_getR dX3_copyFrom_1 lk_X3_9 lc_22 rfl ?_
  refine pr_aload_n dX3_copyFrom_4 rfl ?_
  refine pr_getR dX3_copyFrom_5 lk_X3_9 lc_55 rfl ?_
  obtain ⟨q1, e2, h⟩ := pm_bs h
  refine pr_callSN (av := [pv_r 23, pv_r 56]) (S := []) dX3_copyFrom_8 mk_X3_21 rfl rfl (Nat.le_of_ble_eq_true rfl) (by decide) (by decide) (Or.inl rfl) (tmX11_copyRow lc_23 lc_56 e2) ?_
  refine pr_aload_n dX3_copyFrom_11 rfl ?_
  refine pr_getR dX3_copyFrom_12 lk_X3_15 lc_22 rfl ?_
  refine pr_aload_n dX3_copyFrom_15 rfl ?_
  refine pr_getR dX3_copyFrom_16 lk_X3_15 lc_55 rfl ?_
  obtain ⟨q3, e4, h⟩ := pm_bs h
  refine pr_callSN (av := [pv_r 24, pv_r 57]) (S := []) dX3_copyFrom_19 mk_X3_21 rfl rfl (Nat.le_of_ble_eq_true rfl) (by decide) (by decide) (Or.inl rfl) (tmX11_copyRow lc_24 lc_57 e4) ?_
  refine pr_aload_n dX3_copyFrom_22 rfl ?_
  refine pr_getR dX3_copyFrom_23 lk_X3_18 lc_22 rfl ?_
  refine pr_aload_n dX3_copyFrom_26 rfl ?_
  refine pr_getR dX3_copyFrom_27 lk_X3_18 lc_55 rfl ?_
  obtain ⟨q5, e6, h⟩ := pm_bs h
  refine pr_callSN (av := [pv_r 25, pv_r 58]) (S := []) dX3_copyFrom_30 mk_X3_21 rfl rfl (Nat.le_of_ble_eq_true rfl) (by decide) (by decide) (Or.inl rfl) (tmX11_copyRow lc_25 lc_58 e6) ?_
  refine pr_aload_n dX3_copyFrom_33 rfl ?_
  refine pr_aload_n dX3_copyFrom_34 rfl ?_
  refine pr_getI dX3_copyFrom_35 lk_X3_25 lc_22 rfl ?_
  refine pr_putI dX3_copyFrom_38 lp_X3_25 lc_55 rfl ?_
  have h := Option.some.inj h
  subst h
  exact pr_vret dX3_copyFrom_41 rfl
def bdX3_addPair_12 (b : Nat) (z2 : Int) (σ : pm_M) : Option ((Int × pm_M) ⊕ (Int × pm_M)) :=
  if 12 ≤ (wr z2) then (some (.inl (z2, σ))) else (pm_g (0 ≤ (wr (((σ (b + 7) 3) * 12) + z2)) ∧ (wr (((σ (b + 7) 3) * 12) + z2)) < 48) (some (.inr ((z2 + 1), (pm_up σ (b + 9) (Int.toNat (wr (((σ (b + 7) 3) * 12) + z2))) 50)))))
set_option maxHeartbeats 4000000 in
set_option maxRecDepth 100000 in
theorem tbX3_addPair_12 {lay0 lay' : List pm_S} {r : Option pm_V} {σ' : pm_M} {b : Nat} (hb : b = 15 ∨ b = 48) : ∀ (a : Int × pm_M) (e : (Int × pm_M) ⊕ (Int × pm_M)), (fun a => bdX3_addPair_12 b a.1 a.2) a = some e → (∀ a, e = .inr a → (fun a => pm_J mX3_addPair 0 0 lay0 r lay' σ' 12 [some (pv_r (b + 7)), none, some (pv_i a.1)] [] LAYC a.2) a) → (∀ a, e = .inl a → (fun a => pm_J mX3_addPair 0 0 lay0 r lay' σ' 40 [some (pv_r (b + 7)), none, none] [] LAYC a.2) a) → (fun a => pm_J mX3_addPair 0 0 lay0 r lay' σ' 12 [some (pv_r (b + 7)), none, some (pv_i a.1)] [] LAYC a.2) a := by
  intro a e h hc hx
  obtain ⟨z2, σ⟩ := a
  have h : bdX3_addPair_12 b z2 σ = some e := h
  unfold bdX3_addPair_12 at h
  show pm_J mX3_addPair 0 0 lay0 r lay' σ' 12 [some (pv_r (b + 7)), none, some (pv_i z2)] [] LAYC σ
  refine pr_iload_n dX3_addPair_12 rfl ?_
  refine pr_bipush dX3_addPair_13 (by decide) ?_
  refine pr_icmp_ge (tgt := 40) dX3_addPair_15 rfl (wr_eq (by decide) (by decide)) (by decide) (fun c_2 => ?_) (fun c_2 => ?_)
  · have h := pm_pos c_2 h
    refine pr_weak (L2 := [some (pv_r (b + 7)), none, none]) ⟨Or.inr rfl, Or.inl rfl, Or.inl rfl, trivial⟩ ?_
    exact hx (z2, σ) (Option.some.inj h).symm
  · have h := pm_ng c_2 h
    refine pr_aload_n dX3_addPair_18 rfl ?_
    refine pr_getR dX3_addPair_19 lk_X3_15 (lw_7 hb) rfl ?_
    refine pr_aload_n dX3_addPair_22 rfl ?_
    refine pr_getI dX3_addPair_23 lk_X3_25 (lw_7 hb) rfl ?_
    refine pr_bipush dX3_addPair_26 (by decide) ?_
    refine pr_imul dX3_addPair_28 ?_
    refine pr_iload_n dX3_addPair_29 rfl ?_
    refine pr_iadd dX3_addPair_30 ?_
    refine pr_bipush dX3_addPair_31 (by decide) ?_
    obtain ⟨g_3, h⟩ := pm_gs h
    refine pr_iast dX3_addPair_33 (lw_9 hb) rfl g_3 ?_
    refine pr_iinc dX3_addPair_34 rfl (by decide) rfl ?_
    refine pr_goto (tgt := 12) dX3_addPair_37 (by decide) ?_
    refine pr_weak (L2 := [some (pv_r (b + 7)), none, some (pv_i (z2 + 1))]) ⟨Or.inr rfl, Or.inl rfl, Or.inr rfl, trivial⟩ ?_
    exact hc ((z2 + 1), (pm_up σ (b + 9) (Int.toNat (wr (((σ (b + 7) 3) * 12) + z2))) 50)) (Option.some.inj h).symm
def fX3_addPair (b : Nat) (x1 : Int) (σ : pm_M) : Option (Int × pm_M) :=
  pm_g (0 ≤ (wr (σ (b + 7) 3)) ∧ (wr (σ (b + 7) 3)) < 4) ((pm_it (fun a => bdX3_addPair_12 b a.1 a.2) pm_fuel (0, (pm_up σ (b + 8) (Int.toNat (wr (σ (b + 7) 3))) x1))).bind fun v4 => some ((((pm_up v4.2 (b + 7) 3 ((v4.2 (b + 7) 3) + 1)) (b + 7) 3) - 1), (pm_up v4.2 (b + 7) 3 ((v4.2 (b + 7) 3) + 1))))
set_option maxHeartbeats 4000000 in
set_option maxRecDepth 100000 in
theorem tmX3_addPair {b : Nat} (hb : b = 15 ∨ b = 48) {x1 : Int} {σ : pm_M} {ρ : Int × pm_M} (h : fX3_addPair b x1 σ = some ρ) : pm_C mX3_addPair 0 0 [pv_r (b + 7), pv_i x1] LAYC σ (some (pv_i ρ.1)) LAYC ρ.2 := by
  refine pm_C.of (by decide) rfl (Nat.le_of_ble_eq_true rfl) ?_
  show pm_J mX3_addPair 0 0 LAYC (some (pv_i ρ.1)) LAYC ρ.2 0 [some (pv_r (b + 7)), some (pv_i x1), none] [] LAYC σ
  unfold fX3_addPair at h
  refine pr_aload_n dX3_addPair_0 rfl ?_
  refine pr_getR dX3_addPair_1 lk_X3_9 (lw_7 hb) rfl ?_
  refine pr_aload_n dX3_addPair_4 rfl ?_
  refine pr_getI dX3_addPair_5 lk_X3_25 (lw_7 hb) rfl ?_
  refine pr_iload_n dX3_addPair_8 rfl ?_
  obtain ⟨g_1, h⟩ := pm_gs h
  refine pr_iast dX3_addPair_9 (lw_8 hb) rfl g_1 ?_
  refine pr_iconst dX3_addPair_10 ?_
  refine pr_istore_n dX3_addPair_11 (by decide) rfl ?_
  obtain ⟨v4, e5, h⟩ := pm_bs h
  refine pr_weak (L2 := [some (pv_r (b + 7)), none, some (pv_i 0)]) ⟨Or.inr rfl, Or.inl rfl, Or.inr rfl, trivial⟩ ?_
  refine pm_it_J (α := Int × pm_M) (β := Int × pm_M) (f := fun a => bdX3_addPair_12 b a.1 a.2) (P := fun a => pm_J mX3_addPair 0 0 LAYC (some (pv_i ρ.1)) LAYC ρ.2 12 [some (pv_r (b + 7)), none, some (pv_i a.1)] [] LAYC a.2) (Rx := fun a => pm_J mX3_addPair 0 0 LAYC (some (pv_i ρ.1)) LAYC ρ.2 40 [some (pv_r (b + 7)), none, none] [] LAYC a.2) (tbX3_addPair_12 hb) pm_fuel (0, (pm_up σ (b + 8) (Int.toNat (wr (σ (b + 7) 3))) x1)) v4 e5 ?_
  show pm_J mX3_addPair 0 0 LAYC (some (pv_i ρ.1)) LAYC ρ.2 40 [some (pv_r (b + 7)), none, none] [] LAYC v4.2
  refine pr_aload_n dX3_addPair_40 rfl ?_
  refine pr_dup dX3_addPair_41 rfl ?_
  refine pr_getI dX3_addPair_42 lk_X3_25 (lw_7 hb) rfl ?_
  refine pr_iconst dX3_addPair_45 ?_
  refine pr_iadd dX3_addPair_46 ?_
  refine pr_putI dX3_addPair_47 lp_X3_25 (lw_7 hb) rfl ?_
  refine pr_aload_n dX3_addPair_50 rfl ?_
  refine pr_getI dX3_addPair_51 lk_X3_25 (lw_7 hb) rfl ?_
  refine pr_iconst dX3_addPair_54 ?_
  refine pr_isub dX3_addPair_55 ?_
  have h := Option.some.inj h
  subst h
  exact pr_iret dX3_addPair_56 rfl
