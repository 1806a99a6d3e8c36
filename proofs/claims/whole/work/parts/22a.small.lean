def fX0_copyFrom (σ : pm_M) : Option (pm_M) :=
  (fX11_copyRow 18 4 51 4 σ).bind fun q1 => (fX11_copyRow 19 4 52 4 q1).bind fun q3 => (fX11_copyRow 20 4 53 4 q3).bind fun q5 => (fX11_copyRow 21 4 54 4 q5).bind fun q7 => some q7
set_option maxHeartbeats 4000000 in
set_option maxRecDepth 100000 in
theorem tmX0_copyFrom {σ : pm_M} {ρ : pm_M} (h : fX0_copyFrom σ = some ρ) : pm_C mX0_copyFrom 2 81 [pv_r 50, pv_r 17] LAYC σ none LAYC ρ := by
  refine pm_C.of rfl rfl (by decide) ?_
  show pm_J mX0_copyFrom 2 81 LAYC none LAYC ρ 0 [some (pv_r 50), some (pv_r 17)] [] LAYC σ
  unfold fX0_copyFrom at h
  refine pr_aload_n dX0_copyFrom_0 rfl ?_
  refine pr_getR dX0_copyFrom_1 lk_X0_9 lc_17 rfl ?_
  refine pr_aload_n dX0_copyFrom_4 rfl ?_
  refine pr_getR dX0_copyFrom_5 lk_X0_9 lc_50 rfl ?_
  obtain ⟨q1, e2, h⟩ := pm_bs h
  refine pr_callSN (av := [pv_r 18, pv_r 51]) (S := []) dX0_copyFrom_8 mk_X0_24 rfl rfl (by decide) (by decide) (by decide) (Or.inl rfl) (tmX11_copyRow lc_18 lc_51 e2) ?_
  refine pr_aload_n dX0_copyFrom_11 rfl ?_
  refine pr_getR dX0_copyFrom_12 lk_X0_15 lc_17 rfl ?_
  refine pr_aload_n dX0_copyFrom_15 rfl ?_
  refine pr_getR dX0_copyFrom_16 lk_X0_15 lc_50 rfl ?_
  obtain ⟨q3, e4, h⟩ := pm_bs h
  refine pr_callSN (av := [pv_r 19, pv_r 52]) (S := []) dX0_copyFrom_19 mk_X0_24 rfl rfl (by decide) (by decide) (by decide) (Or.inl rfl) (tmX11_copyRow lc_19 lc_52 e4) ?_
  refine pr_aload_n dX0_copyFrom_22 rfl ?_
  refine pr_getR dX0_copyFrom_23 lk_X0_18 lc_17 rfl ?_
  refine pr_aload_n dX0_copyFrom_26 rfl ?_
  refine pr_getR dX0_copyFrom_27 lk_X0_18 lc_50 rfl ?_
  obtain ⟨q5, e6, h⟩ := pm_bs h
  refine pr_callSN (av := [pv_r 20, pv_r 53]) (S := []) dX0_copyFrom_30 mk_X0_24 rfl rfl (by decide) (by decide) (by decide) (Or.inl rfl) (tmX11_copyRow lc_20 lc_53 e6) ?_
  refine pr_aload_n dX0_copyFrom_33 rfl ?_
  refine pr_getR dX0_copyFrom_34 lk_X0_21 lc_17 rfl ?_
  refine pr_aload_n dX0_copyFrom_37 rfl ?_
  refine pr_getR dX0_copyFrom_38 lk_X0_21 lc_50 rfl ?_
  obtain ⟨q7, e8, h⟩ := pm_bs h
  refine pr_callSN (av := [pv_r 21, pv_r 54]) (S := []) dX0_copyFrom_41 mk_X0_24 rfl rfl (by decide) (by decide) (by decide) (Or.inl rfl) (tmX11_copyRow lc_21 lc_54 e8) ?_
  have h := Option.some.inj h
  subst h
  exact pr_vret dX0_copyFrom_44 rfl
def fX0_isEmpty (b : Nat) (x1 : Int) (σ : pm_M) : Option (Int) :=
  pm_g (0 ≤ (wr x1) ∧ (wr x1) < 4) (if (wr (σ (b + 3) (Int.toNat (wr x1)))) = 0 then (some 1) else (some 0))
set_option maxHeartbeats 4000000 in
set_option maxRecDepth 100000 in
theorem tmX0_isEmpty {b : Nat} (hb : b = 15 ∨ b = 48) {x1 : Int} {σ : pm_M} {ρ : Int} (h : fX0_isEmpty b x1 σ = some ρ) : pm_C mX0_isEmpty 0 0 [pv_r (b + 2), pv_i x1] LAYC σ (some (pv_i ρ)) LAYC σ := by
  refine pm_C.of rfl rfl (by decide) ?_
  show pm_J mX0_isEmpty 0 0 LAYC (some (pv_i ρ)) LAYC σ 0 [some (pv_r (b + 2)), some (pv_i x1)] [] LAYC σ
  unfold fX0_isEmpty at h
  refine pr_aload_n dX0_isEmpty_0 rfl ?_
  refine pr_getR dX0_isEmpty_1 lk_X0_9 (lw_2 hb) rfl ?_
  refine pr_iload_n dX0_isEmpty_4 rfl ?_
  obtain ⟨g_1, h⟩ := pm_gs h
  refine pr_iald dX0_isEmpty_5 (lw_3 hb) rfl g_1 ?_
  refine pr_if_ne (tgt := 13) dX0_isEmpty_6 rfl (by decide) (fun c_2 => ?_) (fun c_2 => ?_)
  · have h := pm_ng c_2 h
    refine pr_iconst dX0_isEmpty_13 ?_
    have h := Option.some.inj h
    subst h
    exact pr_zret dX0_isEmpty_14 rfl (Or.inl rfl)
  · have h := pm_pos c_2 h
    refine pr_iconst dX0_isEmpty_9 ?_
    refine pr_goto (tgt := 14) dX0_isEmpty_10 (by decide) ?_
    have h := Option.some.inj h
    subst h
    exact pr_zret dX0_isEmpty_14 rfl (Or.inr rfl)
def fX0_take (b : Nat) (x1 : Int) (x2 : Int) (x3 : Int) (x4 : Int) (σ : pm_M) : Option (pm_M) :=
  pm_g (0 ≤ (wr x1) ∧ (wr x1) < 4) (pm_g (0 ≤ (wr x1) ∧ (wr x1) < 4) (pm_g (0 ≤ (wr x1) ∧ (wr x1) < 4) (some (pm_up (pm_up (pm_up σ (b + 4) (Int.toNat (wr x1)) x2) (b + 3) (Int.toNat (wr x1)) x3) (b + 5) (Int.toNat (wr x1)) x4))))
set_option maxHeartbeats 4000000 in
set_option maxRecDepth 100000 in
theorem tmX0_take {b : Nat} (hb : b = 15 ∨ b = 48) {x1 : Int} {x2 : Int} {x3 : Int} {x4 : Int} {σ : pm_M} {ρ : pm_M} (h : fX0_take b x1 x2 x3 x4 σ = some ρ) : pm_C mX0_take 0 0 [pv_r (b + 2), pv_i x1, pv_i x2, pv_i x3, pv_i x4] LAYC σ none LAYC ρ := by
  refine pm_C.of rfl rfl (by decide) ?_
  show pm_J mX0_take 0 0 LAYC none LAYC ρ 0 [some (pv_r (b + 2)), some (pv_i x1), some (pv_i x2), some (pv_i x3), some (pv_i x4)] [] LAYC σ
  unfold fX0_take at h
  refine pr_aload_n dX0_take_0 rfl ?_
  refine pr_getR dX0_take_1 lk_X0_15 (lw_2 hb) rfl ?_
  refine pr_iload_n dX0_take_4 rfl ?_
  refine pr_iload_n dX0_take_5 rfl ?_
  obtain ⟨g_1, h⟩ := pm_gs h
  refine pr_iast dX0_take_6 (lw_4 hb) rfl g_1 ?_
  refine pr_aload_n dX0_take_7 rfl ?_
  refine pr_getR dX0_take_8 lk_X0_9 (lw_2 hb) rfl ?_
  refine pr_iload_n dX0_take_11 rfl ?_
  refine pr_iload_n dX0_take_12 rfl ?_
  obtain ⟨g_2, h⟩ := pm_gs h
  refine pr_iast dX0_take_13 (lw_3 hb) rfl g_2 ?_
  refine pr_aload_n dX0_take_14 rfl ?_
  refine pr_getR dX0_take_15 lk_X0_18 (lw_2 hb) rfl ?_
  refine pr_iload_n dX0_take_18 rfl ?_
  refine pr_iload dX0_take_19 rfl ?_
  obtain ⟨g_3, h⟩ := pm_gs h
  refine pr_iast dX0_take_21 (lw_5 hb) rfl g_3 ?_
  have h := Option.some.inj h
  subst h
  exact pr_vret dX0_take_22 rfl
def fX0_end (b : Nat) (x1 : Int) (σ : pm_M) : Option (pm_M) :=
  pm_g (0 ≤ (wr x1) ∧ (wr x1) < 4) (pm_g (0 ≤ (wr (σ (b + 4) (Int.toNat (wr x1)))) ∧ (wr (σ (b + 4) (Int.toNat (wr x1)))) < 9) (pm_g (0 ≤ (wr x1) ∧ (wr x1) < 4) (pm_g (0 ≤ (wr (σ (b + 4) (Int.toNat (wr x1)))) ∧ (wr (σ (b + 4) (Int.toNat (wr x1)))) < 9) (pm_g (0 ≤ (wr x1) ∧ (wr x1) < 4) (pm_g (0 ≤ (wr x1) ∧ (wr x1) < 4) (pm_g (0 ≤ (wr x1) ∧ (wr x1) < 4) (some (pm_up (pm_up (pm_up σ (b + 1) (Int.toNat (wr (σ (b + 4) (Int.toNat (wr x1))))) ((σ (b + 1) (Int.toNat (wr (σ (b + 4) (Int.toNat (wr x1)))))) + (14 * (σ (b + 3) (Int.toNat (wr x1)))))) (b + 3) (Int.toNat (wr x1)) 0) (b + 6) (Int.toNat (wr x1)) (((pm_up (pm_up σ (b + 1) (Int.toNat (wr (σ (b + 4) (Int.toNat (wr x1))))) ((σ (b + 1) (Int.toNat (wr (σ (b + 4) (Int.toNat (wr x1)))))) + (14 * (σ (b + 3) (Int.toNat (wr x1)))))) (b + 3) (Int.toNat (wr x1)) 0) (b + 6) (Int.toNat (wr x1))) + 1)))))))))
set_option maxHeartbeats 4000000 in
set_option maxRecDepth 100000 in
theorem tmX0_end {b : Nat} (hb : b = 15 ∨ b = 48) {x1 : Int} {σ : pm_M} {ρ : pm_M} (h : fX0_end b x1 σ = some ρ) : pm_C mX0_end 0 0 [pv_r (b + 2), pv_i x1, pv_r (b + 1)] LAYC σ none LAYC ρ := by
  refine pm_C.of rfl rfl (by decide) ?_
  show pm_J mX0_end 0 0 LAYC none LAYC ρ 0 [some (pv_r (b + 2)), some (pv_i x1), some (pv_r (b + 1))] [] LAYC σ
  unfold fX0_end at h
  refine pr_aload_n dX0_end_0 rfl ?_
  refine pr_aload_n dX0_end_1 rfl ?_
  refine pr_getR dX0_end_2 lk_X0_15 (lw_2 hb) rfl ?_
  refine pr_iload_n dX0_end_5 rfl ?_
  obtain ⟨g_1, h⟩ := pm_gs h
  refine pr_iald dX0_end_6 (lw_4 hb) rfl g_1 ?_
  refine pr_dup2 dX0_end_7 rfl rfl ?_
  obtain ⟨g_2, h⟩ := pm_gs h
  refine pr_iald dX0_end_8 (lw_1 hb) rfl g_2 ?_
  refine pr_bipush dX0_end_9 (by decide) ?_
  refine pr_aload_n dX0_end_11 rfl ?_
  refine pr_getR dX0_end_12 lk_X0_9 (lw_2 hb) rfl ?_
  refine pr_iload_n dX0_end_15 rfl ?_
  obtain ⟨g_3, h⟩ := pm_gs h
  refine pr_iald dX0_end_16 (lw_3 hb) rfl g_3 ?_
  refine pr_imul dX0_end_17 ?_
  refine pr_iadd dX0_end_18 ?_
  obtain ⟨g_4, h⟩ := pm_gs h
  refine pr_iast dX0_end_19 (lw_1 hb) rfl g_4 ?_
  refine pr_aload_n dX0_end_20 rfl ?_
  refine pr_getR dX0_end_21 lk_X0_9 (lw_2 hb) rfl ?_
  refine pr_iload_n dX0_end_24 rfl ?_
  refine pr_iconst dX0_end_25 ?_
  obtain ⟨g_5, h⟩ := pm_gs h
  refine pr_iast dX0_end_26 (lw_3 hb) rfl g_5 ?_
  refine pr_aload_n dX0_end_27 rfl ?_
  refine pr_getR dX0_end_28 lk_X0_21 (lw_2 hb) rfl ?_
  refine pr_iload_n dX0_end_31 rfl ?_
  refine pr_dup2 dX0_end_32 rfl rfl ?_
  obtain ⟨g_6, h⟩ := pm_gs h
  refine pr_iald dX0_end_33 (lw_6 hb) rfl g_6 ?_
  refine pr_iconst dX0_end_34 ?_
  refine pr_iadd dX0_end_35 ?_
  obtain ⟨g_7, h⟩ := pm_gs h
  refine pr_iast dX0_end_36 (lw_6 hb) rfl g_7 ?_
  have h := Option.some.inj h
  subst h
  exact pr_vret dX0_end_37 rfl
def bdX0_work_5 (b : Nat) (z3 : Int) (z4 : Int) (σ : pm_M) : Option ((Int × Int × pm_M) ⊕ (Int × Int × pm_M)) :=
  if 4 ≤ (wr z4) then (some (.inl (z3, z4, σ))) else ((fX0_isEmpty b z4 σ).bind fun q2 => if (wr q2) = 0 then (if (wr z3) < 6 then (some (.inr (z3, (z4 + 1), σ))) else (pm_g (0 ≤ (wr z4) ∧ (wr z4) < 4) (pm_g (0 ≤ (wr z4) ∧ (wr z4) < 4) (pm_g (0 ≤ (wr z4) ∧ (wr z4) < 4) (if (wr ((pm_up σ (b + 5) (Int.toNat (wr z4)) ((σ (b + 5) (Int.toNat (wr z4))) - 1)) (b + 5) (Int.toNat (wr z4)))) = 0 then ((fX0_end b z4 (pm_up σ (b + 5) (Int.toNat (wr z4)) ((σ (b + 5) (Int.toNat (wr z4))) - 1))).bind fun q10 => some (.inr ((z3 + (-6)), (z4 + 1), q10))) else (some (.inr ((z3 + (-6)), (z4 + 1), (pm_up σ (b + 5) (Int.toNat (wr z4)) ((σ (b + 5) (Int.toNat (wr z4))) - 1)))))))))) else (some (.inr (z3, (z4 + 1), σ))))
set_option maxHeartbeats 4000000 in
set_option maxRecDepth 100000 in
theorem tbX0_work_5 {lay0 lay' : List pm_S} {r : Option pm_V} {σ' : pm_M} {b : Nat} (hb : b = 15 ∨ b = 48) : ∀ (a : Int × Int × pm_M) (e : (Int × Int × pm_M) ⊕ (Int × Int × pm_M)), (fun a => bdX0_work_5 b a.1 a.2.1 a.2.2) a = some e → (∀ a, e = .inr a → (fun a => pm_J mX0_work 1 22 lay0 r lay' σ' 5 [some (pv_r (b + 2)), none, some (pv_r (b + 1)), some (pv_i a.1), some (pv_i a.2.1)] [] LAYC a.2.2) a) → (∀ a, e = .inl a → (fun a => pm_J mX0_work 1 22 lay0 r lay' σ' 63 [none, none, none, some (pv_i a.1), none] [] LAYC a.2.2) a) → (fun a => pm_J mX0_work 1 22 lay0 r lay' σ' 5 [some (pv_r (b + 2)), none, some (pv_r (b + 1)), some (pv_i a.1), some (pv_i a.2.1)] [] LAYC a.2.2) a := by
  intro a e h hc hx
  obtain ⟨z3, z4, σ⟩ := a
  have h : bdX0_work_5 b z3 z4 σ = some e := h
  unfold bdX0_work_5 at h
  show pm_J mX0_work 1 22 lay0 r lay' σ' 5 [some (pv_r (b + 2)), none, some (pv_r (b + 1)), some (pv_i z3), some (pv_i z4)] [] LAYC σ
  refine pr_iload dX0_work_5 rfl ?_
  refine pr_iconst dX0_work_7 ?_
  refine pr_icmp_ge (tgt := 63) dX0_work_8 rfl (wr_eq (by decide) (by decide)) (by decide) (fun c_1 => ?_) (fun c_1 => ?_)
  · have h := pm_pos c_1 h
    refine pr_weak (L2 := [none, none, none, some (pv_i z3), none]) ⟨Or.inl rfl, Or.inl rfl, Or.inl rfl, Or.inr rfl, Or.inl rfl, trivial⟩ ?_
    exact hx _ (Option.some.inj h).symm
  · have h := pm_ng c_1 h
    refine pr_aload_n dX0_work_11 rfl ?_
    refine pr_iload dX0_work_12 rfl ?_
    obtain ⟨q2, e3, h⟩ := pm_bs h
    refine pr_callV (As := [pv_i z4]) (S := []) (t := (b + 2)) dX0_work_14 mk_X0_28 (lw_2 hb) (ci := 0) (q := (RX0, TX0, 4)) rfl rfl rfl rfl (by decide) (by decide) (by decide) (Or.inl rfl) (tmX0_isEmpty hb e3) ?_
    refine pr_if_ne (tgt := 57) dX0_work_17 rfl (by decide) (fun c_4 => ?_) (fun c_4 => ?_)
    · have h := pm_ng c_4 h
      refine pr_iinc dX0_work_57 rfl (by decide) rfl ?_
      refine pr_goto (tgt := 5) dX0_work_60 (by decide) ?_
      refine pr_weak (L2 := [some (pv_r (b + 2)), none, some (pv_r (b + 1)), some (pv_i z3), some (pv_i (z4 + 1))]) ⟨Or.inr rfl, Or.inl rfl, Or.inr rfl, Or.inr rfl, Or.inr rfl, trivial⟩ ?_
      exact hc _ (Option.some.inj h).symm
    · have h := pm_pos c_4 h
      refine pr_iload_n dX0_work_20 rfl ?_
      refine pr_bipush dX0_work_21 (by decide) ?_
      refine pr_icmp_lt (tgt := 57) dX0_work_23 rfl (wr_eq (by decide) (by decide)) (by decide) (fun c_5 => ?_) (fun c_5 => ?_)
      · have h := pm_pos c_5 h
        refine pr_iinc dX0_work_57 rfl (by decide) rfl ?_
        refine pr_goto (tgt := 5) dX0_work_60 (by decide) ?_
        refine pr_weak (L2 := [some (pv_r (b + 2)), none, some (pv_r (b + 1)), some (pv_i z3), some (pv_i (z4 + 1))]) ⟨Or.inr rfl, Or.inl rfl, Or.inr rfl, Or.inr rfl, Or.inr rfl, trivial⟩ ?_
        exact hc _ (Option.some.inj h).symm
      · have h := pm_ng c_5 h
        refine pr_iinc dX0_work_26 rfl (by decide) rfl ?_
        refine pr_aload_n dX0_work_29 rfl ?_
        refine pr_getR dX0_work_30 lk_X0_18 (lw_2 hb) rfl ?_
        refine pr_iload dX0_work_33 rfl ?_
        refine pr_dup2 dX0_work_35 rfl rfl ?_
        obtain ⟨g_6, h⟩ := pm_gs h
        refine pr_iald dX0_work_36 (lw_5 hb) rfl g_6 ?_
        refine pr_iconst dX0_work_37 ?_
        refine pr_isub dX0_work_38 ?_
        obtain ⟨g_7, h⟩ := pm_gs h
        refine pr_iast dX0_work_39 (lw_5 hb) rfl g_7 ?_
        refine pr_aload_n dX0_work_40 rfl ?_
        refine pr_getR dX0_work_41 lk_X0_18 (lw_2 hb) rfl ?_
        refine pr_iload dX0_work_44 rfl ?_
        obtain ⟨g_8, h⟩ := pm_gs h
        refine pr_iald dX0_work_46 (lw_5 hb) rfl g_8 ?_
        refine pr_if_ne (tgt := 57) dX0_work_47 rfl (by decide) (fun c_9 => ?_) (fun c_9 => ?_)
        · have h := pm_ng c_9 h
          refine pr_iinc dX0_work_57 rfl (by decide) rfl ?_
          refine pr_goto (tgt := 5) dX0_work_60 (by decide) ?_
          refine pr_weak (L2 := [some (pv_r (b + 2)), none, some (pv_r (b + 1)), some (pv_i (z3 + (-6))), some (pv_i (z4 + 1))]) ⟨Or.inr rfl, Or.inl rfl, Or.inr rfl, Or.inr rfl, Or.inr rfl, trivial⟩ ?_
          exact hc _ (Option.some.inj h).symm
        · have h := pm_pos c_9 h
          refine pr_aload_n dX0_work_50 rfl ?_
          refine pr_iload dX0_work_51 rfl ?_
          refine pr_aload_n dX0_work_53 rfl ?_
          obtain ⟨q10, e11, h⟩ := pm_bs h
          refine pr_callV (As := [pv_i z4, pv_r (b + 1)]) (S := []) (t := (b + 2)) dX0_work_54 mk_X0_32 (lw_2 hb) (ci := 0) (q := (RX0, TX0, 4)) rfl rfl rfl rfl (by decide) (by decide) (by decide) (Or.inl rfl) (tmX0_end hb e11) ?_
          refine pr_iinc dX0_work_57 rfl (by decide) rfl ?_
          refine pr_goto (tgt := 5) dX0_work_60 (by decide) ?_
          refine pr_weak (L2 := [some (pv_r (b + 2)), none, some (pv_r (b + 1)), some (pv_i (z3 + (-6))), some (pv_i (z4 + 1))]) ⟨Or.inr rfl, Or.inl rfl, Or.inr rfl, Or.inr rfl, Or.inr rfl, trivial⟩ ?_
          exact hc _ (Option.some.inj h).symm
def fX0_work (b : Nat) (x1 : Int) (σ : pm_M) : Option (Int × pm_M) :=
  (pm_it (fun a => bdX0_work_5 b a.1 a.2.1 a.2.2) pm_fuel (x1, 0, σ)).bind fun v12 => some (v12.1, v12.2.2)
set_option maxHeartbeats 4000000 in
set_option maxRecDepth 100000 in
theorem tmX0_work {b : Nat} (hb : b = 15 ∨ b = 48) {x1 : Int} {σ : pm_M} {ρ : Int × pm_M} (h : fX0_work b x1 σ = some ρ) : pm_C mX0_work 1 22 [pv_r (b + 2), pv_i x1, pv_r (b + 1)] LAYC σ (some (pv_i ρ.1)) LAYC ρ.2 := by
  refine pm_C.of rfl rfl (by decide) ?_
  show pm_J mX0_work 1 22 LAYC (some (pv_i ρ.1)) LAYC ρ.2 0 [some (pv_r (b + 2)), some (pv_i x1), some (pv_r (b + 1)), none, none] [] LAYC σ
  unfold fX0_work at h
  refine pr_iload_n dX0_work_0 rfl ?_
  refine pr_istore_n dX0_work_1 (by decide) rfl ?_
  refine pr_iconst dX0_work_2 ?_
  refine pr_istore dX0_work_3 (by decide) rfl ?_
  obtain ⟨v12, e13, h⟩ := pm_bs h
  refine pr_weak (L2 := [some (pv_r (b + 2)), none, some (pv_r (b + 1)), some (pv_i x1), some (pv_i 0)]) ⟨Or.inr rfl, Or.inl rfl, Or.inr rfl, Or.inr rfl, Or.inr rfl, trivial⟩ ?_
  refine pm_it_J (P := fun a => pm_J mX0_work 1 22 LAYC (some (pv_i ρ.1)) LAYC ρ.2 5 [some (pv_r (b + 2)), none, some (pv_r (b + 1)), some (pv_i a.1), some (pv_i a.2.1)] [] LAYC a.2.2) (Rx := fun a => pm_J mX0_work 1 22 LAYC (some (pv_i ρ.1)) LAYC ρ.2 63 [none, none, none, some (pv_i a.1), none] [] LAYC a.2.2) (tbX0_work_5 hb) _ _ _ e13 ?_
  show pm_J mX0_work 1 22 LAYC (some (pv_i ρ.1)) LAYC ρ.2 63 [none, none, none, some (pv_i v12.1), none] [] LAYC v12.2.2
  refine pr_iload_n dX0_work_63 rfl ?_
  have h := Option.some.inj h
  subst h
  exact pr_iret dX0_work_64 rfl
def fX3_copyFrom (σ : pm_M) : Option (pm_M) :=
  (fX11_copyRow 23 4 56 4 σ).bind fun q1 => (fX11_copyRow 24 48 57 48 q1).bind fun q3 => (fX11_copyRow 25 8 58 8 q3).bind fun q5 => some (pm_up q5 55 3 (q5 22 3))
set_option maxHeartbeats 4000000 in
set_option maxRecDepth 100000 in
theorem tmX3_copyFrom {σ : pm_M} {ρ : pm_M} (h : fX3_copyFrom σ = some ρ) : pm_C mX3_copyFrom 2 81 [pv_r 55, pv_r 22] LAYC σ none LAYC ρ := by
  refine pm_C.of rfl rfl (by decide) ?_
  show pm_J mX3_copyFrom 2 81 LAYC none LAYC ρ 0 [some (pv_r 55), some (pv_r 22)] [] LAYC σ
  unfold fX3_copyFrom at h
  refine pr_aload_n dX3_copyFrom_0 rfl ?_
  refine pr_getR dX3_copyFrom_1 lk_X3_9 lc_22 rfl ?_
  refine pr_aload_n dX3_copyFrom_4 rfl ?_
  refine pr_getR dX3_copyFrom_5 lk_X3_9 lc_55 rfl ?_
  obtain ⟨q1, e2, h⟩ := pm_bs h
  refine pr_callSN (av := [pv_r 23, pv_r 56]) (S := []) dX3_copyFrom_8 mk_X3_21 rfl rfl (by decide) (by decide) (by decide) (Or.inl rfl) (tmX11_copyRow lc_23 lc_56 e2) ?_
  refine pr_aload_n dX3_copyFrom_11 rfl ?_
  refine pr_getR dX3_copyFrom_12 lk_X3_15 lc_22 rfl ?_
  refine pr_aload_n dX3_copyFrom_15 rfl ?_
  refine pr_getR dX3_copyFrom_16 lk_X3_15 lc_55 rfl ?_
  obtain ⟨q3, e4, h⟩ := pm_bs h
  refine pr_callSN (av := [pv_r 24, pv_r 57]) (S := []) dX3_copyFrom_19 mk_X3_21 rfl rfl (by decide) (by decide) (by decide) (Or.inl rfl) (tmX11_copyRow lc_24 lc_57 e4) ?_
  refine pr_aload_n dX3_copyFrom_22 rfl ?_
  refine pr_getR dX3_copyFrom_23 lk_X3_18 lc_22 rfl ?_
  refine pr_aload_n dX3_copyFrom_26 rfl ?_
  refine pr_getR dX3_copyFrom_27 lk_X3_18 lc_55 rfl ?_
  obtain ⟨q5, e6, h⟩ := pm_bs h
  refine pr_callSN (av := [pv_r 25, pv_r 58]) (S := []) dX3_copyFrom_30 mk_X3_21 rfl rfl (by decide) (by decide) (by decide) (Or.inl rfl) (tmX11_copyRow lc_25 lc_58 e6) ?_
  refine pr_aload_n dX3_copyFrom_33 rfl ?_
  refine pr_aload_n dX3_copyFrom_34 rfl ?_
  refine pr_getI dX3_copyFrom_35 lk_X3_25 lc_22 rfl ?_
  refine pr_putI dX3_copyFrom_38 lp_X3_25 lc_55 rfl ?_
  have h := Option.some.inj h
  subst h
  exact pr_vret dX3_copyFrom_41 rfl
def bdX3_addPair_12 (b : Nat) (z2 : Int) (σ : pm_M) : Option ((Int × pm_M) ⊕ (Int × pm_M)) :=
  if 12 ≤ (wr z2) then (some (.inl (z2, σ))) else (pm_g (0 ≤ (wr (((σ (b + 7) 3) * 12) + z2)) ∧ (wr (((σ (b + 7) 3) * 12) + z2)) < 48) (some (.inr ((z2 + 1), (pm_up σ (b + 9) (Int.toNat (wr (((σ (b + 7) 3) * 12) + z2))) 50)))))
set_option maxHeartbeats 4000000 in
set_option maxRecDepth 100000 in
theorem tbX3_addPair_12 {lay0 lay' : List pm_S} {r : Option pm_V} {σ' : pm_M} {b : Nat} (hb : b = 15 ∨ b = 48) : ∀ (a : Int × pm_M) (e : (Int × pm_M) ⊕ (Int × pm_M)), (fun a => bdX3_addPair_12 b a.1 a.2) a = some e → (∀ a, e = .inr a → (fun a => pm_J mX3_addPair 0 0 lay0 r lay' σ' 12 [some (pv_r (b + 7)), none, some (pv_i a.1)] [] LAYC a.2) a) → (∀ a, e = .inl a → (fun a => pm_J mX3_addPair 0 0 lay0 r lay' σ' 40 [some (pv_r (b + 7)), none, none] [] LAYC a.2) a) → (fun a => pm_J mX3_addPair 0 0 lay0 r lay' σ' 12 [some (pv_r (b + 7)), none, some (pv_i a.1)] [] LAYC a.2) a := by
  intro a e h hc hx
  obtain ⟨z2, σ⟩ := a
  have h : bdX3_addPair_12 b z2 σ = some e := h
  unfold bdX3_addPair_12 at h
  show pm_J mX3_addPair 0 0 lay0 r lay' σ' 12 [some (pv_r (b + 7)), none, some (pv_i z2)] [] LAYC σ
  refine pr_iload_n dX3_addPair_12 rfl ?_
  refine pr_bipush dX3_addPair_13 (by decide) ?_
  refine pr_icmp_ge (tgt := 40) dX3_addPair_15 rfl (wr_eq (by decide) (by decide)) (by decide) (fun c_2 => ?_) (fun c_2 => ?_)
  · have h := pm_pos c_2 h
    refine pr_weak (L2 := [some (pv_r (b + 7)), none, none]) ⟨Or.inr rfl, Or.inl rfl, Or.inl rfl, trivial⟩ ?_
    exact hx _ (Option.some.inj h).symm
  · have h := pm_ng c_2 h
    refine pr_aload_n dX3_addPair_18 rfl ?_
    refine pr_getR dX3_addPair_19 lk_X3_15 (lw_7 hb) rfl ?_
    refine pr_aload_n dX3_addPair_22 rfl ?_
    refine pr_getI dX3_addPair_23 lk_X3_25 (lw_7 hb) rfl ?_
    refine pr_bipush dX3_addPair_26 (by decide) ?_
    refine pr_imul dX3_addPair_28 ?_
    refine pr_iload_n dX3_addPair_29 rfl ?_
    refine pr_iadd dX3_addPair_30 ?_
    refine pr_bipush dX3_addPair_31 (by decide) ?_
    obtain ⟨g_3, h⟩ := pm_gs h
    refine pr_iast dX3_addPair_33 (lw_9 hb) rfl g_3 ?_
    refine pr_iinc dX3_addPair_34 rfl (by decide) rfl ?_
    refine pr_goto (tgt := 12) dX3_addPair_37 (by decide) ?_
    refine pr_weak (L2 := [some (pv_r (b + 7)), none, some (pv_i (z2 + 1))]) ⟨Or.inr rfl, Or.inl rfl, Or.inr rfl, trivial⟩ ?_
    exact hc _ (Option.some.inj h).symm
def fX3_addPair (b : Nat) (x1 : Int) (σ : pm_M) : Option (Int × pm_M) :=
  pm_g (0 ≤ (wr (σ (b + 7) 3)) ∧ (wr (σ (b + 7) 3)) < 4) ((pm_it (fun a => bdX3_addPair_12 b a.1 a.2) pm_fuel (0, (pm_up σ (b + 8) (Int.toNat (wr (σ (b + 7) 3))) x1))).bind fun v4 => some ((((pm_up v4.2 (b + 7) 3 ((v4.2 (b + 7) 3) + 1)) (b + 7) 3) - 1), (pm_up v4.2 (b + 7) 3 ((v4.2 (b + 7) 3) + 1))))
set_option maxHeartbeats 4000000 in
set_option maxRecDepth 100000 in
theorem tmX3_addPair {b : Nat} (hb : b = 15 ∨ b = 48) {x1 : Int} {σ : pm_M} {ρ : Int × pm_M} (h : fX3_addPair b x1 σ = some ρ) : pm_C mX3_addPair 0 0 [pv_r (b + 7), pv_i x1] LAYC σ (some (pv_i ρ.1)) LAYC ρ.2 := by
  refine pm_C.of rfl rfl (by decide) ?_
  show pm_J mX3_addPair 0 0 LAYC (some (pv_i ρ.1)) LAYC ρ.2 0 [some (pv_r (b + 7)), some (pv_i x1), none] [] LAYC σ
  unfold fX3_addPair at h
  refine pr_aload_n dX3_addPair_0 rfl ?_
  refine pr_getR dX3_addPair_1 lk_X3_9 (lw_7 hb) rfl ?_
  refine pr_aload_n dX3_addPair_4 rfl ?_
  refine pr_getI dX3_addPair_5 lk_X3_25 (lw_7 hb) rfl ?_
  refine pr_iload_n dX3_addPair_8 rfl ?_
  obtain ⟨g_1, h⟩ := pm_gs h
  refine pr_iast dX3_addPair_9 (lw_8 hb) rfl g_1 ?_
  refine pr_iconst dX3_addPair_10 ?_
  refine pr_istore_n dX3_addPair_11 (by decide) rfl ?_
  obtain ⟨v4, e5, h⟩ := pm_bs h
  refine pr_weak (L2 := [some (pv_r (b + 7)), none, some (pv_i 0)]) ⟨Or.inr rfl, Or.inl rfl, Or.inr rfl, trivial⟩ ?_
  refine pm_it_J (P := fun a => pm_J mX3_addPair 0 0 LAYC (some (pv_i ρ.1)) LAYC ρ.2 12 [some (pv_r (b + 7)), none, some (pv_i a.1)] [] LAYC a.2) (Rx := fun a => pm_J mX3_addPair 0 0 LAYC (some (pv_i ρ.1)) LAYC ρ.2 40 [some (pv_r (b + 7)), none, none] [] LAYC a.2) (tbX3_addPair_12 hb) _ _ _ e5 ?_
  show pm_J mX3_addPair 0 0 LAYC (some (pv_i ρ.1)) LAYC ρ.2 40 [some (pv_r (b + 7)), none, none] [] LAYC v4.2
  refine pr_aload_n dX3_addPair_40 rfl ?_
  refine pr_dup dX3_addPair_41 rfl ?_
  refine pr_getI dX3_addPair_42 lk_X3_25 (lw_7 hb) rfl ?_
  refine pr_iconst dX3_addPair_45 ?_
  refine pr_iadd dX3_addPair_46 ?_
  refine pr_putI dX3_addPair_47 lp_X3_25 (lw_7 hb) rfl ?_
  refine pr_aload_n dX3_addPair_50 rfl ?_
  refine pr_getI dX3_addPair_51 lk_X3_25 (lw_7 hb) rfl ?_
  refine pr_iconst dX3_addPair_54 ?_
  refine pr_isub dX3_addPair_55 ?_
  have h := Option.some.inj h
  subst h
  exact pr_iret dX3_addPair_56 rfl
def fX3_wireOf (b : Nat) (x1 : Int) (x2 : Int) (σ : pm_M) : Option (Int) :=
  pm_g (0 ≤ (wr ((x1 * 6) + x2)) ∧ (wr ((x1 * 6) + x2)) < 48) (some (σ (b + 9) (Int.toNat (wr ((x1 * 6) + x2)))))
set_option maxHeartbeats 4000000 in
set_option maxRecDepth 100000 in
theorem tmX3_wireOf {b : Nat} (hb : b = 15 ∨ b = 48) {x1 : Int} {x2 : Int} {σ : pm_M} {ρ : Int} (h : fX3_wireOf b x1 x2 σ = some ρ) : pm_C mX3_wireOf 0 0 [pv_r (b + 7), pv_i x1, pv_i x2] LAYC σ (some (pv_i ρ)) LAYC σ := by
  refine pm_C.of rfl rfl (by decide) ?_
  show pm_J mX3_wireOf 0 0 LAYC (some (pv_i ρ)) LAYC σ 0 [some (pv_r (b + 7)), some (pv_i x1), some (pv_i x2)] [] LAYC σ
  unfold fX3_wireOf at h
  refine pr_aload_n dX3_wireOf_0 rfl ?_
  refine pr_getR dX3_wireOf_1 lk_X3_15 (lw_7 hb) rfl ?_
  refine pr_iload_n dX3_wireOf_4 rfl ?_
  refine pr_bipush dX3_wireOf_5 (by decide) ?_
  refine pr_imul dX3_wireOf_7 ?_
  refine pr_iload_n dX3_wireOf_8 rfl ?_
  refine pr_iadd dX3_wireOf_9 ?_
  obtain ⟨g_1, h⟩ := pm_gs h
  refine pr_iald dX3_wireOf_10 (lw_9 hb) rfl g_1 ?_
  have h := Option.some.inj h
  subst h
  exact pr_iret dX3_wireOf_11 rfl
def fX3_setWire (b : Nat) (x1 : Int) (x2 : Int) (x3 : Int) (σ : pm_M) : Option (pm_M) :=
  pm_g (0 ≤ (wr ((x1 * 6) + x2)) ∧ (wr ((x1 * 6) + x2)) < 48) (some (pm_up σ (b + 9) (Int.toNat (wr ((x1 * 6) + x2))) x3))
set_option maxHeartbeats 4000000 in
set_option maxRecDepth 100000 in
theorem tmX3_setWire {b : Nat} (hb : b = 15 ∨ b = 48) {x1 : Int} {x2 : Int} {x3 : Int} {σ : pm_M} {ρ : pm_M} (h : fX3_setWire b x1 x2 x3 σ = some ρ) : pm_C mX3_setWire 0 0 [pv_r (b + 7), pv_i x1, pv_i x2, pv_i x3] LAYC σ none LAYC ρ := by
  refine pm_C.of rfl rfl (by decide) ?_
  show pm_J mX3_setWire 0 0 LAYC none LAYC ρ 0 [some (pv_r (b + 7)), some (pv_i x1), some (pv_i x2), some (pv_i x3)] [] LAYC σ
  unfold fX3_setWire at h
  refine pr_aload_n dX3_setWire_0 rfl ?_
  refine pr_getR dX3_setWire_1 lk_X3_15 (lw_7 hb) rfl ?_
  refine pr_iload_n dX3_setWire_4 rfl ?_
  refine pr_bipush dX3_setWire_5 (by decide) ?_
  refine pr_imul dX3_setWire_7 ?_
  refine pr_iload_n dX3_setWire_8 rfl ?_
  refine pr_iadd dX3_setWire_9 ?_
  refine pr_iload_n dX3_setWire_10 rfl ?_
  obtain ⟨g_1, h⟩ := pm_gs h
  refine pr_iast dX3_setWire_11 (lw_9 hb) rfl g_1 ?_
  have h := Option.some.inj h
  subst h
  exact pr_vret dX3_setWire_12 rfl
def jnX3_countSheet_73 (b : Nat) (w3 : Int) (u0 : Int) (σ : pm_M) : Option (pm_M) :=
  if (wr u0) < 0 then (some σ) else (if 99 < (wr u0) then (some σ) else (pm_g (0 ≤ (wr w3) ∧ (wr w3) < 48) (some (pm_up σ (b + 9) (Int.toNat (wr w3)) u0))))
set_option maxHeartbeats 4000000 in
set_option maxRecDepth 100000 in
theorem tjX3_countSheet_73 {lay0 : List pm_S} {b : Nat} (hb : b = 15 ∨ b = 48) {w3 : Int} {u0 : Int} {σ : pm_M} {ρ : pm_M} (h : jnX3_countSheet_73 b w3 u0 σ = some ρ) : pm_J mX3_countSheet 0 0 lay0 none LAYC ρ 73 [some (pv_r (b + 7)), none, none, some (pv_i w3), none] [pv_i u0] LAYC σ := by
  unfold jnX3_countSheet_73 at h
  refine pr_istore dX3_countSheet_73 (by decide) rfl ?_
  refine pr_iload dX3_countSheet_75 rfl ?_
  refine pr_if_lt (tgt := 95) dX3_countSheet_77 rfl (by decide) (fun c_8 => ?_) (fun c_8 => ?_)
  · have h := pm_pos c_8 h
    have h := Option.some.inj h
    subst h
    exact pr_vret dX3_countSheet_95 rfl
  · have h := pm_ng c_8 h
    refine pr_iload dX3_countSheet_80 rfl ?_
    refine pr_bipush dX3_countSheet_82 (by decide) ?_
    refine pr_icmp_gt (tgt := 95) dX3_countSheet_84 rfl (wr_eq (by decide) (by decide)) (by decide) (fun c_9 => ?_) (fun c_9 => ?_)
    · have h := pm_pos c_9 h
      have h := Option.some.inj h
      subst h
      exact pr_vret dX3_countSheet_95 rfl
    · have h := pm_ng c_9 h
      refine pr_aload_n dX3_countSheet_87 rfl ?_
      refine pr_getR dX3_countSheet_88 lk_X3_15 (lw_7 hb) rfl ?_
      refine pr_iload_n dX3_countSheet_91 rfl ?_
      refine pr_iload dX3_countSheet_92 rfl ?_
      obtain ⟨g_10, h⟩ := pm_gs h
      refine pr_iast dX3_countSheet_94 (lw_9 hb) rfl g_10 ?_
      have h := Option.some.inj h
      subst h
      exact pr_vret dX3_countSheet_95 rfl
def fX3_countSheet (b : Nat) (x1 : Int) (σ : pm_M) : Option (pm_M) :=
  pm_g (0 ≤ (wr x1) ∧ (wr x1) < 8) (pm_g (0 ≤ (wr x1) ∧ (wr x1) < 8) (pm_g (0 ≤ (wr x1) ∧ (wr x1) < 8) (if (wr (Int.tmod (wr ((pm_up σ (b + 10) (Int.toNat (wr x1)) ((σ (b + 10) (Int.toNat (wr x1))) + 1)) (b + 10) (Int.toNat (wr x1)))) 50)) = 0 then (pm_g (0 ≤ (wr x1) ∧ (wr x1) < 8) (if (wr (Int.tmod (wr (Int.tdiv (wr (Int.tdiv (wr ((pm_up σ (b + 10) (Int.toNat (wr x1)) ((σ (b + 10) (Int.toNat (wr x1))) + 1)) (b + 10) (Int.toNat (wr x1)))) 50)) 6)) 2)) = 0 then (pm_g (0 ≤ (wr ((x1 * 6) + (Int.tmod (wr ((Int.tdiv (wr ((pm_up σ (b + 10) (Int.toNat (wr x1)) ((σ (b + 10) (Int.toNat (wr x1))) + 1)) (b + 10) (Int.toNat (wr x1)))) 50) + x1)) 6))) ∧ (wr ((x1 * 6) + (Int.tmod (wr ((Int.tdiv (wr ((pm_up σ (b + 10) (Int.toNat (wr x1)) ((σ (b + 10) (Int.toNat (wr x1))) + 1)) (b + 10) (Int.toNat (wr x1)))) 50) + x1)) 6))) < 48) (jnX3_countSheet_73 b ((x1 * 6) + (Int.tmod (wr ((Int.tdiv (wr ((pm_up σ (b + 10) (Int.toNat (wr x1)) ((σ (b + 10) (Int.toNat (wr x1))) + 1)) (b + 10) (Int.toNat (wr x1)))) 50) + x1)) 6)) (((pm_up σ (b + 10) (Int.toNat (wr x1)) ((σ (b + 10) (Int.toNat (wr x1))) + 1)) (b + 9) (Int.toNat (wr ((x1 * 6) + (Int.tmod (wr ((Int.tdiv (wr ((pm_up σ (b + 10) (Int.toNat (wr x1)) ((σ (b + 10) (Int.toNat (wr x1))) + 1)) (b + 10) (Int.toNat (wr x1)))) 50) + x1)) 6))))) + 1) (pm_up σ (b + 10) (Int.toNat (wr x1)) ((σ (b + 10) (Int.toNat (wr x1))) + 1)))) else (pm_g (0 ≤ (wr ((x1 * 6) + (Int.tmod (wr ((Int.tdiv (wr ((pm_up σ (b + 10) (Int.toNat (wr x1)) ((σ (b + 10) (Int.toNat (wr x1))) + 1)) (b + 10) (Int.toNat (wr x1)))) 50) + x1)) 6))) ∧ (wr ((x1 * 6) + (Int.tmod (wr ((Int.tdiv (wr ((pm_up σ (b + 10) (Int.toNat (wr x1)) ((σ (b + 10) (Int.toNat (wr x1))) + 1)) (b + 10) (Int.toNat (wr x1)))) 50) + x1)) 6))) < 48) (jnX3_countSheet_73 b ((x1 * 6) + (Int.tmod (wr ((Int.tdiv (wr ((pm_up σ (b + 10) (Int.toNat (wr x1)) ((σ (b + 10) (Int.toNat (wr x1))) + 1)) (b + 10) (Int.toNat (wr x1)))) 50) + x1)) 6)) (((pm_up σ (b + 10) (Int.toNat (wr x1)) ((σ (b + 10) (Int.toNat (wr x1))) + 1)) (b + 9) (Int.toNat (wr ((x1 * 6) + (Int.tmod (wr ((Int.tdiv (wr ((pm_up σ (b + 10) (Int.toNat (wr x1)) ((σ (b + 10) (Int.toNat (wr x1))) + 1)) (b + 10) (Int.toNat (wr x1)))) 50) + x1)) 6))))) - 1) (pm_up σ (b + 10) (Int.toNat (wr x1)) ((σ (b + 10) (Int.toNat (wr x1))) + 1)))))) else (some (pm_up σ (b + 10) (Int.toNat (wr x1)) ((σ (b + 10) (Int.toNat (wr x1))) + 1))))))
set_option maxHeartbeats 4000000 in
set_option maxRecDepth 100000 in
theorem tmX3_countSheet {b : Nat} (hb : b = 15 ∨ b = 48) {x1 : Int} {σ : pm_M} {ρ : pm_M} (h : fX3_countSheet b x1 σ = some ρ) : pm_C mX3_countSheet 0 0 [pv_r (b + 7), pv_i x1] LAYC σ none LAYC ρ := by
  refine pm_C.of rfl rfl (by decide) ?_
  show pm_J mX3_countSheet 0 0 LAYC none LAYC ρ 0 [some (pv_r (b + 7)), some (pv_i x1), none, none, none] [] LAYC σ
  unfold fX3_countSheet at h
  refine pr_aload_n dX3_countSheet_0 rfl ?_
  refine pr_getR dX3_countSheet_1 lk_X3_18 (lw_7 hb) rfl ?_
  refine pr_iload_n dX3_countSheet_4 rfl ?_
  refine pr_dup2 dX3_countSheet_5 rfl rfl ?_
  obtain ⟨g_1, h⟩ := pm_gs h
  refine pr_iald dX3_countSheet_6 (lw_10 hb) rfl g_1 ?_
  refine pr_iconst dX3_countSheet_7 ?_
  refine pr_iadd dX3_countSheet_8 ?_
  obtain ⟨g_2, h⟩ := pm_gs h
  refine pr_iast dX3_countSheet_9 (lw_10 hb) rfl g_2 ?_
  refine pr_aload_n dX3_countSheet_10 rfl ?_
  refine pr_getR dX3_countSheet_11 lk_X3_18 (lw_7 hb) rfl ?_
  refine pr_iload_n dX3_countSheet_14 rfl ?_
  obtain ⟨g_3, h⟩ := pm_gs h
  refine pr_iald dX3_countSheet_15 (lw_10 hb) rfl g_3 ?_
  refine pr_bipush dX3_countSheet_16 (by decide) ?_
  refine pr_irem dX3_countSheet_18 rfl (wr_eq (by decide) (by decide)) (by decide) ?_
  refine pr_if_eq (tgt := 23) dX3_countSheet_19 rfl (by decide) (fun c_4 => ?_) (fun c_4 => ?_)
  · have h := pm_pos c_4 h
    refine pr_aload_n dX3_countSheet_23 rfl ?_
    refine pr_getR dX3_countSheet_24 lk_X3_18 (lw_7 hb) rfl ?_
    refine pr_iload_n dX3_countSheet_27 rfl ?_
    obtain ⟨g_5, h⟩ := pm_gs h
    refine pr_iald dX3_countSheet_28 (lw_10 hb) rfl g_5 ?_
    refine pr_bipush dX3_countSheet_29 (by decide) ?_
    refine pr_idiv dX3_countSheet_31 rfl (wr_eq (by decide) (by decide)) (by decide) ?_
    refine pr_istore_n dX3_countSheet_32 (by decide) rfl ?_
    refine pr_iload_n dX3_countSheet_33 rfl ?_
    refine pr_bipush dX3_countSheet_34 (by decide) ?_
    refine pr_imul dX3_countSheet_36 ?_
    refine pr_iload_n dX3_countSheet_37 rfl ?_
    refine pr_iload_n dX3_countSheet_38 rfl ?_
    refine pr_iadd dX3_countSheet_39 ?_
    refine pr_bipush dX3_countSheet_40 (by decide) ?_
    refine pr_irem dX3_countSheet_42 rfl (wr_eq (by decide) (by decide)) (by decide) ?_
    refine pr_iadd dX3_countSheet_43 ?_
    refine pr_istore_n dX3_countSheet_44 (by decide) rfl ?_
    refine pr_iload_n dX3_countSheet_45 rfl ?_
    refine pr_bipush dX3_countSheet_46 (by decide) ?_
    refine pr_idiv dX3_countSheet_48 rfl (wr_eq (by decide) (by decide)) (by decide) ?_
    refine pr_iconst dX3_countSheet_49 ?_
    refine pr_irem dX3_countSheet_50 rfl (wr_eq (by decide) (by decide)) (by decide) ?_
    refine pr_if_ne (tgt := 65) dX3_countSheet_51 rfl (by decide) (fun c_6 => ?_) (fun c_6 => ?_)
    · have h := pm_ng c_6 h
      refine pr_aload_n dX3_countSheet_65 rfl ?_
      refine pr_getR dX3_countSheet_66 lk_X3_15 (lw_7 hb) rfl ?_
      refine pr_iload_n dX3_countSheet_69 rfl ?_
      obtain ⟨g_7, h⟩ := pm_gs h
      refine pr_iald dX3_countSheet_70 (lw_9 hb) rfl g_7 ?_
      refine pr_iconst dX3_countSheet_71 ?_
      refine pr_isub dX3_countSheet_72 ?_
      refine pr_weak (L2 := [some (pv_r (b + 7)), none, none, some (pv_i ((x1 * 6) + (Int.tmod (wr ((Int.tdiv (wr ((pm_up σ (b + 10) (Int.toNat (wr x1)) ((σ (b + 10) (Int.toNat (wr x1))) + 1)) (b + 10) (Int.toNat (wr x1)))) 50) + x1)) 6))), none]) ⟨Or.inr rfl, Or.inl rfl, Or.inl rfl, Or.inr rfl, Or.inl rfl, trivial⟩ ?_
      exact tjX3_countSheet_73 hb h
    · have h := pm_pos c_6 h
      refine pr_aload_n dX3_countSheet_54 rfl ?_
      refine pr_getR dX3_countSheet_55 lk_X3_15 (lw_7 hb) rfl ?_
      refine pr_iload_n dX3_countSheet_58 rfl ?_
      obtain ⟨g_11, h⟩ := pm_gs h
      refine pr_iald dX3_countSheet_59 (lw_9 hb) rfl g_11 ?_
      refine pr_iconst dX3_countSheet_60 ?_
      refine pr_iadd dX3_countSheet_61 ?_
      refine pr_goto (tgt := 73) dX3_countSheet_62 (by decide) ?_
      refine pr_weak (L2 := [some (pv_r (b + 7)), none, none, some (pv_i ((x1 * 6) + (Int.tmod (wr ((Int.tdiv (wr ((pm_up σ (b + 10) (Int.toNat (wr x1)) ((σ (b + 10) (Int.toNat (wr x1))) + 1)) (b + 10) (Int.toNat (wr x1)))) 50) + x1)) 6))), none]) ⟨Or.inr rfl, Or.inl rfl, Or.inl rfl, Or.inr rfl, Or.inl rfl, trivial⟩ ?_
      exact tjX3_countSheet_73 hb h
  · have h := pm_ng c_4 h
    have h := Option.some.inj h
    subst h
    exact pr_vret dX3_countSheet_22 rfl
def fX2_keep (b : Nat) (x1 : Int) (x3 : Int) (x5 : Int) (σ : pm_M) : Option (pm_M) :=
  pm_g (0 ≤ (wr x3) ∧ 0 ≤ (wr ((x1 * 4) * 6)) ∧ 0 ≤ 12 ∧ (wr x3) + 12 ≤ 36 ∧ (wr ((x1 * 4) * 6)) + 12 ≤ 1920) (pm_g (0 ≤ (wr (x5 * 12)) ∧ 0 ≤ (wr (((x1 * 4) * 6) + 12)) ∧ 0 ≤ 12 ∧ (wr (x5 * 12)) + 12 ≤ 48 ∧ (wr (((x1 * 4) * 6) + 12)) + 12 ≤ 1920) (pm_g (0 ≤ (wr (2 * x5)) ∧ (wr (2 * x5)) < 8) ((fJ9_max_7cf53 0 (30 - (Int.tmod (wr ((pm_cp (pm_cp σ (b + 27) (Int.toNat (wr x3)) (b + 13) (Int.toNat (wr ((x1 * 4) * 6))) (Int.toNat 12)) (b + 9) (Int.toNat (wr (x5 * 12))) (b + 13) (Int.toNat (wr (((x1 * 4) * 6) + 12))) (Int.toNat 12)) (b + 10) (Int.toNat (wr (2 * x5))))) 50))).bind fun q4 => pm_g (0 ≤ (wr x1) ∧ (wr x1) < 80) (some (pm_up (pm_cp (pm_cp σ (b + 27) (Int.toNat (wr x3)) (b + 13) (Int.toNat (wr ((x1 * 4) * 6))) (Int.toNat 12)) (b + 9) (Int.toNat (wr (x5 * 12))) (b + 13) (Int.toNat (wr (((x1 * 4) * 6) + 12))) (Int.toNat 12)) (b + 14) (Int.toNat (wr x1)) q4)))))
set_option maxHeartbeats 4000000 in
set_option maxRecDepth 100000 in
theorem tmX2_keep {b : Nat} (hb : b = 15 ∨ b = 48) {x1 : Int} {x3 : Int} {x5 : Int} {σ : pm_M} {ρ : pm_M} (h : fX2_keep b x1 x3 x5 σ = some ρ) : pm_C mX2_keep 1 60 [pv_r (b + 12), pv_i x1, pv_r (b + 27), pv_i x3, pv_r (b + 7), pv_i x5] LAYC σ none LAYC ρ := by
  refine pm_C.of rfl rfl (by decide) ?_
  show pm_J mX2_keep 1 60 LAYC none LAYC ρ 0 [some (pv_r (b + 12)), some (pv_i x1), some (pv_r (b + 27)), some (pv_i x3), some (pv_r (b + 7)), some (pv_i x5), none, none] [] LAYC σ
  unfold fX2_keep at h
  refine pr_iload_n dX2_keep_0 rfl ?_
  refine pr_iconst dX2_keep_1 ?_
  refine pr_imul dX2_keep_2 ?_
  refine pr_bipush dX2_keep_3 (by decide) ?_
  refine pr_imul dX2_keep_5 ?_
  refine pr_istore dX2_keep_6 (by decide) rfl ?_
  refine pr_aload_n dX2_keep_8 rfl ?_
  refine pr_iload_n dX2_keep_9 rfl ?_
  refine pr_aload_n dX2_keep_10 rfl ?_
  refine pr_getR dX2_keep_11 lk_X2_9 (lw_12 hb) rfl ?_
  refine pr_iload dX2_keep_14 rfl ?_
  refine pr_bipush dX2_keep_16 (by decide) ?_
  obtain ⟨g_1, h⟩ := pm_gs h
  refine pr_acopy dX2_keep_18 ac_X2_18 (lw_27 hb) (lw_13 hb) rfl rfl (wr_eq (by decide) (by decide)) g_1 (by decide) (by decide +kernel) ?_
  refine pr_aload dX2_keep_21 rfl ?_
  refine pr_getR dX2_keep_23 lk_X2_24 (lw_7 hb) rfl ?_
  refine pr_iload dX2_keep_26 rfl ?_
  refine pr_bipush dX2_keep_28 (by decide) ?_
  refine pr_imul dX2_keep_30 ?_
  refine pr_aload_n dX2_keep_31 rfl ?_
  refine pr_getR dX2_keep_32 lk_X2_9 (lw_12 hb) rfl ?_
  refine pr_iload dX2_keep_35 rfl ?_
  refine pr_bipush dX2_keep_37 (by decide) ?_
  refine pr_iadd dX2_keep_39 ?_
  refine pr_bipush dX2_keep_40 (by decide) ?_
  obtain ⟨g_2, h⟩ := pm_gs h
  refine pr_acopy dX2_keep_42 ac_X2_18 (lw_9 hb) (lw_13 hb) rfl rfl (wr_eq (by decide) (by decide)) g_2 (by decide) (by decide +kernel) ?_
  refine pr_aload dX2_keep_45 rfl ?_
  refine pr_getR dX2_keep_47 lk_X2_27 (lw_7 hb) rfl ?_
  refine pr_iconst dX2_keep_50 ?_
  refine pr_iload dX2_keep_51 rfl ?_
  refine pr_imul dX2_keep_53 ?_
  obtain ⟨g_3, h⟩ := pm_gs h
  refine pr_iald dX2_keep_54 (lw_10 hb) rfl g_3 ?_
  refine pr_bipush dX2_keep_55 (by decide) ?_
  refine pr_irem dX2_keep_57 rfl (wr_eq (by decide) (by decide)) (by decide) ?_
  refine pr_istore dX2_keep_58 (by decide) rfl ?_
  refine pr_aload_n dX2_keep_60 rfl ?_
  refine pr_getR dX2_keep_61 lk_X2_15 (lw_12 hb) rfl ?_
  refine pr_iload_n dX2_keep_64 rfl ?_
  refine pr_iconst dX2_keep_65 ?_
  refine pr_bipush dX2_keep_66 (by decide) ?_
  refine pr_iload dX2_keep_68 rfl ?_
  refine pr_isub dX2_keep_70 ?_
  obtain ⟨q4, e5, h⟩ := pm_bs h
  refine pr_callS (av := [pv_i 0, pv_i (30 - (Int.tmod (wr ((pm_cp (pm_cp σ (b + 27) (Int.toNat (wr x3)) (b + 13) (Int.toNat (wr ((x1 * 4) * 6))) (Int.toNat 12)) (b + 9) (Int.toNat (wr (x5 * 12))) (b + 13) (Int.toNat (wr (((x1 * 4) * 6) + 12))) (Int.toNat 12)) (b + 10) (Int.toNat (wr (2 * x5))))) 50))]) (S := [pv_i x1, pv_r (b + 14)]) dX2_keep_71 mk_X2_30 rfl rfl (by decide) (by decide) (by decide) (Or.inl rfl) (tmJ9_max_7cf53 e5) ?_
  obtain ⟨g_6, h⟩ := pm_gs h
  refine pr_iast dX2_keep_74 (lw_14 hb) rfl g_6 ?_
  have h := Option.some.inj h
  subst h
  exact pr_vret dX2_keep_75 rfl
def fX2_groupMark (b : Nat) (x1 : Int) (x2 : Int) (x3 : Int) (σ : pm_M) : Option (Int) :=
  pm_g (0 ≤ (wr ((((x1 * 4) + x2) * 6) + x3)) ∧ (wr ((((x1 * 4) + x2) * 6) + x3)) < 1920) (some (σ (b + 13) (Int.toNat (wr ((((x1 * 4) + x2) * 6) + x3)))))
set_option maxHeartbeats 4000000 in
set_option maxRecDepth 100000 in
theorem tmX2_groupMark {b : Nat} (hb : b = 15 ∨ b = 48) {x1 : Int} {x2 : Int} {x3 : Int} {σ : pm_M} {ρ : Int} (h : fX2_groupMark b x1 x2 x3 σ = some ρ) : pm_C mX2_groupMark 0 0 [pv_r (b + 12), pv_i x1, pv_i x2, pv_i x3] LAYC σ (some (pv_i ρ)) LAYC σ := by
  refine pm_C.of rfl rfl (by decide) ?_
  show pm_J mX2_groupMark 0 0 LAYC (some (pv_i ρ)) LAYC σ 0 [some (pv_r (b + 12)), some (pv_i x1), some (pv_i x2), some (pv_i x3)] [] LAYC σ
  unfold fX2_groupMark at h
  refine pr_aload_n dX2_groupMark_0 rfl ?_
  refine pr_getR dX2_groupMark_1 lk_X2_9 (lw_12 hb) rfl ?_
  refine pr_iload_n dX2_groupMark_4 rfl ?_
  refine pr_iconst dX2_groupMark_5 ?_
  refine pr_imul dX2_groupMark_6 ?_
  refine pr_iload_n dX2_groupMark_7 rfl ?_
  refine pr_iadd dX2_groupMark_8 ?_
  refine pr_bipush dX2_groupMark_9 (by decide) ?_
  refine pr_imul dX2_groupMark_11 ?_
  refine pr_iload_n dX2_groupMark_12 rfl ?_
  refine pr_iadd dX2_groupMark_13 ?_
  obtain ⟨g_1, h⟩ := pm_gs h
  refine pr_iald dX2_groupMark_14 (lw_13 hb) rfl g_1 ?_
  have h := Option.some.inj h
  subst h
  exact pr_iret dX2_groupMark_15 rfl
def fX2_markOf (b : Nat) (x1 : Int) (x2 : Int) (x3 : Int) (σ : pm_M) : Option (Int) :=
  pm_g (0 ≤ (wr x1) ∧ (wr x1) < 80) (if (wr (σ (b + 14) (Int.toNat (wr x1)))) ≤ (wr (Int.tdiv (wr x2) 2)) then ((fX2_groupMark b x1 ((Int.tmod (wr x2) 2) + 2) x3 σ).bind fun q3 => some q3) else ((fX2_groupMark b x1 (Int.tmod (wr x2) 2) x3 σ).bind fun q5 => some q5))
set_option maxHeartbeats 4000000 in
set_option maxRecDepth 100000 in
theorem tmX2_markOf {b : Nat} (hb : b = 15 ∨ b = 48) {x1 : Int} {x2 : Int} {x3 : Int} {σ : pm_M} {ρ : Int} (h : fX2_markOf b x1 x2 x3 σ = some ρ) : pm_C mX2_markOf 1 23 [pv_r (b + 12), pv_i x1, pv_i x2, pv_i x3] LAYC σ (some (pv_i ρ)) LAYC σ := by
  refine pm_C.of rfl rfl (by decide) ?_
  show pm_J mX2_markOf 1 23 LAYC (some (pv_i ρ)) LAYC σ 0 [some (pv_r (b + 12)), some (pv_i x1), some (pv_i x2), some (pv_i x3), none] [] LAYC σ
  unfold fX2_markOf at h
  refine pr_iload_n dX2_markOf_0 rfl ?_
  refine pr_iconst dX2_markOf_1 ?_
  refine pr_irem dX2_markOf_2 rfl (wr_eq (by decide) (by decide)) (by decide) ?_
  refine pr_istore dX2_markOf_3 (by decide) rfl ?_
  refine pr_aload_n dX2_markOf_5 rfl ?_
  refine pr_iload_n dX2_markOf_6 rfl ?_
  refine pr_iload_n dX2_markOf_7 rfl ?_
  refine pr_iconst dX2_markOf_8 ?_
  refine pr_idiv dX2_markOf_9 rfl (wr_eq (by decide) (by decide)) (by decide) ?_
  refine pr_aload_n dX2_markOf_10 rfl ?_
  refine pr_getR dX2_markOf_11 lk_X2_15 (lw_12 hb) rfl ?_
  refine pr_iload_n dX2_markOf_14 rfl ?_
  obtain ⟨g_1, h⟩ := pm_gs h
  refine pr_iald dX2_markOf_15 (lw_14 hb) rfl g_1 ?_
  refine pr_icmp_ge (tgt := 24) dX2_markOf_16 rfl rfl (by decide) (fun c_2 => ?_) (fun c_2 => ?_)
  · have h := pm_pos c_2 h
    refine pr_iload dX2_markOf_24 rfl ?_
    refine pr_iconst dX2_markOf_26 ?_
    refine pr_iadd dX2_markOf_27 ?_
    refine pr_iload_n dX2_markOf_28 rfl ?_
    obtain ⟨q3, e4, h⟩ := pm_bs h
    refine pr_callV (As := [pv_i x1, pv_i ((Int.tmod (wr x2) 2) + 2), pv_i x3]) (S := []) (t := (b + 12)) dX2_markOf_29 mk_X2_36 (lw_12 hb) (ci := 2) (q := (RX2, TX2, 2)) rfl rfl rfl rfl (by decide) (by decide) (by decide) (Or.inl rfl) (tmX2_groupMark hb e4) ?_
    have h := Option.some.inj h
    subst h
    exact pr_iret dX2_markOf_32 rfl
  · have h := pm_ng c_2 h
    refine pr_iload dX2_markOf_19 rfl ?_
    refine pr_goto (tgt := 28) dX2_markOf_21 (by decide) ?_
    refine pr_iload_n dX2_markOf_28 rfl ?_
    obtain ⟨q5, e6, h⟩ := pm_bs h
    refine pr_callV (As := [pv_i x1, pv_i (Int.tmod (wr x2) 2), pv_i x3]) (S := []) (t := (b + 12)) dX2_markOf_29 mk_X2_36 (lw_12 hb) (ci := 2) (q := (RX2, TX2, 2)) rfl rfl rfl rfl (by decide) (by decide) (by decide) (Or.inl rfl) (tmX2_groupMark hb e6) ?_
    have h := Option.some.inj h
    subst h
    exact pr_iret dX2_markOf_32 rfl
def fX2_groupSheets (b : Nat) (x1 : Int) (x2 : Int) (σ : pm_M) : Option (Int) :=
  if 2 ≤ (wr x2) then (pm_g (0 ≤ (wr x1) ∧ (wr x1) < 80) (some (30 - (σ (b + 14) (Int.toNat (wr x1)))))) else (pm_g (0 ≤ (wr x1) ∧ (wr x1) < 80) (some (σ (b + 14) (Int.toNat (wr x1)))))
set_option maxHeartbeats 4000000 in
set_option maxRecDepth 100000 in
theorem tmX2_groupSheets {b : Nat} (hb : b = 15 ∨ b = 48) {x1 : Int} {x2 : Int} {σ : pm_M} {ρ : Int} (h : fX2_groupSheets b x1 x2 σ = some ρ) : pm_C mX2_groupSheets 0 0 [pv_r (b + 12), pv_i x1, pv_i x2] LAYC σ (some (pv_i ρ)) LAYC σ := by
  refine pm_C.of rfl rfl (by decide) ?_
  show pm_J mX2_groupSheets 0 0 LAYC (some (pv_i ρ)) LAYC σ 0 [some (pv_r (b + 12)), some (pv_i x1), some (pv_i x2)] [] LAYC σ
  unfold fX2_groupSheets at h
  refine pr_iload_n dX2_groupSheets_0 rfl ?_
  refine pr_iconst dX2_groupSheets_1 ?_
  refine pr_icmp_ge (tgt := 14) dX2_groupSheets_2 rfl (wr_eq (by decide) (by decide)) (by decide) (fun c_1 => ?_) (fun c_1 => ?_)
  · have h := pm_pos c_1 h
    refine pr_bipush dX2_groupSheets_14 (by decide) ?_
    refine pr_aload_n dX2_groupSheets_16 rfl ?_
    refine pr_getR dX2_groupSheets_17 lk_X2_15 (lw_12 hb) rfl ?_
    refine pr_iload_n dX2_groupSheets_20 rfl ?_
    obtain ⟨g_2, h⟩ := pm_gs h
    refine pr_iald dX2_groupSheets_21 (lw_14 hb) rfl g_2 ?_
    refine pr_isub dX2_groupSheets_22 ?_
    have h := Option.some.inj h
    subst h
    exact pr_iret dX2_groupSheets_23 rfl
  · have h := pm_ng c_1 h
    refine pr_aload_n dX2_groupSheets_5 rfl ?_
    refine pr_getR dX2_groupSheets_6 lk_X2_15 (lw_12 hb) rfl ?_
    refine pr_iload_n dX2_groupSheets_9 rfl ?_
    obtain ⟨g_3, h⟩ := pm_gs h
    refine pr_iald dX2_groupSheets_10 (lw_14 hb) rfl g_3 ?_
    refine pr_goto (tgt := 23) dX2_groupSheets_11 (by decide) ?_
    have h := Option.some.inj h
    subst h
    exact pr_iret dX2_groupSheets_23 rfl
def fX2_groupFirst (b : Nat) (x1 : Int) (x2 : Int) (σ : pm_M) : Option (Int) :=
  if 2 ≤ (wr x2) then (pm_g (0 ≤ (wr x1) ∧ (wr x1) < 80) (some (((2 * (σ (b + 14) (Int.toNat (wr x1)))) + x2) - 2))) else (some x2)
set_option maxHeartbeats 4000000 in
set_option maxRecDepth 100000 in
theorem tmX2_groupFirst {b : Nat} (hb : b = 15 ∨ b = 48) {x1 : Int} {x2 : Int} {σ : pm_M} {ρ : Int} (h : fX2_groupFirst b x1 x2 σ = some ρ) : pm_C mX2_groupFirst 0 0 [pv_r (b + 12), pv_i x1, pv_i x2] LAYC σ (some (pv_i ρ)) LAYC σ := by
  refine pm_C.of rfl rfl (by decide) ?_
  show pm_J mX2_groupFirst 0 0 LAYC (some (pv_i ρ)) LAYC σ 0 [some (pv_r (b + 12)), some (pv_i x1), some (pv_i x2)] [] LAYC σ
  unfold fX2_groupFirst at h
  refine pr_iload_n dX2_groupFirst_0 rfl ?_
  refine pr_iconst dX2_groupFirst_1 ?_
  refine pr_icmp_ge (tgt := 9) dX2_groupFirst_2 rfl (wr_eq (by decide) (by decide)) (by decide) (fun c_1 => ?_) (fun c_1 => ?_)
  · have h := pm_pos c_1 h
    refine pr_iconst dX2_groupFirst_9 ?_
    refine pr_aload_n dX2_groupFirst_10 rfl ?_
    refine pr_getR dX2_groupFirst_11 lk_X2_15 (lw_12 hb) rfl ?_
    refine pr_iload_n dX2_groupFirst_14 rfl ?_
    obtain ⟨g_2, h⟩ := pm_gs h
    refine pr_iald dX2_groupFirst_15 (lw_14 hb) rfl g_2 ?_
    refine pr_imul dX2_groupFirst_16 ?_
    refine pr_iload_n dX2_groupFirst_17 rfl ?_
    refine pr_iadd dX2_groupFirst_18 ?_
    refine pr_iconst dX2_groupFirst_19 ?_
    refine pr_isub dX2_groupFirst_20 ?_
    have h := Option.some.inj h
    subst h
    exact pr_iret dX2_groupFirst_21 rfl
  · have h := pm_ng c_1 h
    refine pr_iload_n dX2_groupFirst_5 rfl ?_
    refine pr_goto (tgt := 21) dX2_groupFirst_6 (by decide) ?_
    have h := Option.some.inj h
    subst h
    exact pr_iret dX2_groupFirst_21 rfl
def fX1_copyFrom (σ : pm_M) : Option (pm_M) :=
  (fX11_copyRow 44 40 77 40 σ).bind fun q1 => (fX11_copyRow 45 40 78 40 q1).bind fun q3 => (fX11_copyRow 46 40 79 40 q3).bind fun q5 => (fX11_copyRow 47 40 80 40 q5).bind fun q7 => some (pm_up (pm_up q7 76 5 (q7 43 5)) 76 6 ((pm_up q7 76 5 (q7 43 5)) 43 6))
set_option maxHeartbeats 4000000 in
set_option maxRecDepth 100000 in
theorem tmX1_copyFrom {σ : pm_M} {ρ : pm_M} (h : fX1_copyFrom σ = some ρ) : pm_C mX1_copyFrom 2 81 [pv_r 76, pv_r 43] LAYC σ none LAYC ρ := by
  refine pm_C.of rfl rfl (by decide) ?_
  show pm_J mX1_copyFrom 2 81 LAYC none LAYC ρ 0 [some (pv_r 76), some (pv_r 43)] [] LAYC σ
  unfold fX1_copyFrom at h
  refine pr_aload_n dX1_copyFrom_0 rfl ?_
  refine pr_getR dX1_copyFrom_1 lk_X1_9 lc_43 rfl ?_
  refine pr_aload_n dX1_copyFrom_4 rfl ?_
  refine pr_getR dX1_copyFrom_5 lk_X1_9 lc_76 rfl ?_
  obtain ⟨q1, e2, h⟩ := pm_bs h
  refine pr_callSN (av := [pv_r 44, pv_r 77]) (S := []) dX1_copyFrom_8 mk_X1_28 rfl rfl (by decide) (by decide) (by decide) (Or.inl rfl) (tmX11_copyRow lc_44 lc_77 e2) ?_
  refine pr_aload_n dX1_copyFrom_11 rfl ?_
  refine pr_getR dX1_copyFrom_12 lk_X1_15 lc_43 rfl ?_
  refine pr_aload_n dX1_copyFrom_15 rfl ?_
  refine pr_getR dX1_copyFrom_16 lk_X1_15 lc_76 rfl ?_
  obtain ⟨q3, e4, h⟩ := pm_bs h
  refine pr_callSN (av := [pv_r 45, pv_r 78]) (S := []) dX1_copyFrom_19 mk_X1_28 rfl rfl (by decide) (by decide) (by decide) (Or.inl rfl) (tmX11_copyRow lc_45 lc_78 e4) ?_
  refine pr_aload_n dX1_copyFrom_22 rfl ?_
  refine pr_getR dX1_copyFrom_23 lk_X1_18 lc_43 rfl ?_
  refine pr_aload_n dX1_copyFrom_26 rfl ?_
  refine pr_getR dX1_copyFrom_27 lk_X1_18 lc_76 rfl ?_
  obtain ⟨q5, e6, h⟩ := pm_bs h
  refine pr_callSN (av := [pv_r 46, pv_r 79]) (S := []) dX1_copyFrom_30 mk_X1_28 rfl rfl (by decide) (by decide) (by decide) (Or.inl rfl) (tmX11_copyRow lc_46 lc_79 e6) ?_
  refine pr_aload_n dX1_copyFrom_33 rfl ?_
  refine pr_getR dX1_copyFrom_34 lk_X1_21 lc_43 rfl ?_
  refine pr_aload_n dX1_copyFrom_37 rfl ?_
  refine pr_getR dX1_copyFrom_38 lk_X1_21 lc_76 rfl ?_
  obtain ⟨q7, e8, h⟩ := pm_bs h
  refine pr_callSN (av := [pv_r 47, pv_r 80]) (S := []) dX1_copyFrom_41 mk_X1_28 rfl rfl (by decide) (by decide) (by decide) (Or.inl rfl) (tmX11_copyRow lc_47 lc_80 e8) ?_
  refine pr_aload_n dX1_copyFrom_44 rfl ?_
  refine pr_aload_n dX1_copyFrom_45 rfl ?_
  refine pr_getI dX1_copyFrom_46 lk_X1_32 lc_43 rfl ?_
  refine pr_putI dX1_copyFrom_49 lp_X1_32 lc_76 rfl ?_
  refine pr_aload_n dX1_copyFrom_52 rfl ?_
  refine pr_aload_n dX1_copyFrom_53 rfl ?_
  refine pr_getI dX1_copyFrom_54 lk_X1_36 lc_43 rfl ?_
  refine pr_putI dX1_copyFrom_57 lp_X1_36 lc_76 rfl ?_
  have h := Option.some.inj h
  subst h
  exact pr_vret dX1_copyFrom_60 rfl
def fX1_lay (b : Nat) (x1 : Int) (x2 : Int) (x3 : Int) (σ : pm_M) : Option (Int × pm_M) :=
  pm_g (0 ≤ (wr (σ (b + 28) 5)) ∧ (wr (σ (b + 28) 5)) < 40) (pm_g (0 ≤ (wr ((pm_up σ (b + 29) (Int.toNat (wr (σ (b + 28) 5))) x1) (b + 28) 5)) ∧ (wr ((pm_up σ (b + 29) (Int.toNat (wr (σ (b + 28) 5))) x1) (b + 28) 5)) < 40) (pm_g (0 ≤ (wr ((pm_up (pm_up σ (b + 29) (Int.toNat (wr (σ (b + 28) 5))) x1) (b + 30) (Int.toNat (wr ((pm_up σ (b + 29) (Int.toNat (wr (σ (b + 28) 5))) x1) (b + 28) 5))) x2) (b + 28) 5)) ∧ (wr ((pm_up (pm_up σ (b + 29) (Int.toNat (wr (σ (b + 28) 5))) x1) (b + 30) (Int.toNat (wr ((pm_up σ (b + 29) (Int.toNat (wr (σ (b + 28) 5))) x1) (b + 28) 5))) x2) (b + 28) 5)) < 40) (some ((((pm_up (pm_up (pm_up (pm_up σ (b + 29) (Int.toNat (wr (σ (b + 28) 5))) x1) (b + 30) (Int.toNat (wr ((pm_up σ (b + 29) (Int.toNat (wr (σ (b + 28) 5))) x1) (b + 28) 5))) x2) (b + 31) (Int.toNat (wr ((pm_up (pm_up σ (b + 29) (Int.toNat (wr (σ (b + 28) 5))) x1) (b + 30) (Int.toNat (wr ((pm_up σ (b + 29) (Int.toNat (wr (σ (b + 28) 5))) x1) (b + 28) 5))) x2) (b + 28) 5))) x3) (b + 28) 5 (((pm_up (pm_up (pm_up σ (b + 29) (Int.toNat (wr (σ (b + 28) 5))) x1) (b + 30) (Int.toNat (wr ((pm_up σ (b + 29) (Int.toNat (wr (σ (b + 28) 5))) x1) (b + 28) 5))) x2) (b + 31) (Int.toNat (wr ((pm_up (pm_up σ (b + 29) (Int.toNat (wr (σ (b + 28) 5))) x1) (b + 30) (Int.toNat (wr ((pm_up σ (b + 29) (Int.toNat (wr (σ (b + 28) 5))) x1) (b + 28) 5))) x2) (b + 28) 5))) x3) (b + 28) 5) + 1)) (b + 28) 5) - 1), (pm_up (pm_up (pm_up (pm_up σ (b + 29) (Int.toNat (wr (σ (b + 28) 5))) x1) (b + 30) (Int.toNat (wr ((pm_up σ (b + 29) (Int.toNat (wr (σ (b + 28) 5))) x1) (b + 28) 5))) x2) (b + 31) (Int.toNat (wr ((pm_up (pm_up σ (b + 29) (Int.toNat (wr (σ (b + 28) 5))) x1) (b + 30) (Int.toNat (wr ((pm_up σ (b + 29) (Int.toNat (wr (σ (b + 28) 5))) x1) (b + 28) 5))) x2) (b + 28) 5))) x3) (b + 28) 5 (((pm_up (pm_up (pm_up σ (b + 29) (Int.toNat (wr (σ (b + 28) 5))) x1) (b + 30) (Int.toNat (wr ((pm_up σ (b + 29) (Int.toNat (wr (σ (b + 28) 5))) x1) (b + 28) 5))) x2) (b + 31) (Int.toNat (wr ((pm_up (pm_up σ (b + 29) (Int.toNat (wr (σ (b + 28) 5))) x1) (b + 30) (Int.toNat (wr ((pm_up σ (b + 29) (Int.toNat (wr (σ (b + 28) 5))) x1) (b + 28) 5))) x2) (b + 28) 5))) x3) (b + 28) 5) + 1))))))
set_option maxHeartbeats 4000000 in
set_option maxRecDepth 100000 in
theorem tmX1_lay {b : Nat} (hb : b = 15 ∨ b = 48) {x1 : Int} {x2 : Int} {x3 : Int} {σ : pm_M} {ρ : Int × pm_M} (h : fX1_lay b x1 x2 x3 σ = some ρ) : pm_C mX1_lay 0 0 [pv_r (b + 28), pv_i x1, pv_i x2, pv_i x3] LAYC σ (some (pv_i ρ.1)) LAYC ρ.2 := by
  refine pm_C.of rfl rfl (by decide) ?_
  show pm_J mX1_lay 0 0 LAYC (some (pv_i ρ.1)) LAYC ρ.2 0 [some (pv_r (b + 28)), some (pv_i x1), some (pv_i x2), some (pv_i x3)] [] LAYC σ
  unfold fX1_lay at h
  refine pr_aload_n dX1_lay_0 rfl ?_
  refine pr_getR dX1_lay_1 lk_X1_9 (lw_28 hb) rfl ?_
  refine pr_aload_n dX1_lay_4 rfl ?_
  refine pr_getI dX1_lay_5 lk_X1_32 (lw_28 hb) rfl ?_
  refine pr_iload_n dX1_lay_8 rfl ?_
  obtain ⟨g_1, h⟩ := pm_gs h
  refine pr_iast dX1_lay_9 (lw_29 hb) rfl g_1 ?_
  refine pr_aload_n dX1_lay_10 rfl ?_
  refine pr_getR dX1_lay_11 lk_X1_15 (lw_28 hb) rfl ?_
  refine pr_aload_n dX1_lay_14 rfl ?_
  refine pr_getI dX1_lay_15 lk_X1_32 (lw_28 hb) rfl ?_
  refine pr_iload_n dX1_lay_18 rfl ?_
  obtain ⟨g_2, h⟩ := pm_gs h
  refine pr_iast dX1_lay_19 (lw_30 hb) rfl g_2 ?_
  refine pr_aload_n dX1_lay_20 rfl ?_
  refine pr_getR dX1_lay_21 lk_X1_18 (lw_28 hb) rfl ?_
  refine pr_aload_n dX1_lay_24 rfl ?_
  refine pr_getI dX1_lay_25 lk_X1_32 (lw_28 hb) rfl ?_
  refine pr_iload_n dX1_lay_28 rfl ?_
  obtain ⟨g_3, h⟩ := pm_gs h
  refine pr_iast dX1_lay_29 (lw_31 hb) rfl g_3 ?_
  refine pr_aload_n dX1_lay_30 rfl ?_
  refine pr_dup dX1_lay_31 rfl ?_
  refine pr_getI dX1_lay_32 lk_X1_32 (lw_28 hb) rfl ?_
  refine pr_iconst dX1_lay_35 ?_
  refine pr_iadd dX1_lay_36 ?_
  refine pr_putI dX1_lay_37 lp_X1_32 (lw_28 hb) rfl ?_
  refine pr_aload_n dX1_lay_40 rfl ?_
  refine pr_getI dX1_lay_41 lk_X1_32 (lw_28 hb) rfl ?_
  refine pr_iconst dX1_lay_44 ?_
  refine pr_isub dX1_lay_45 ?_
  have h := Option.some.inj h
  subst h
  exact pr_iret dX1_lay_46 rfl
def fX1_ageOf (b : Nat) (x1 : Int) (x2 : Int) (σ : pm_M) : Option (Int) :=
  pm_g (0 ≤ (wr x1) ∧ (wr x1) < 40) (some (Int.tdiv (wr (x2 - (σ (b + 31) (Int.toNat (wr x1))))) 24))
set_option maxHeartbeats 4000000 in
set_option maxRecDepth 100000 in
theorem tmX1_ageOf {b : Nat} (hb : b = 15 ∨ b = 48) {x1 : Int} {x2 : Int} {σ : pm_M} {ρ : Int} (h : fX1_ageOf b x1 x2 σ = some ρ) : pm_C mX1_ageOf 0 0 [pv_r (b + 28), pv_i x1, pv_i x2] LAYC σ (some (pv_i ρ)) LAYC σ := by
  refine pm_C.of rfl rfl (by decide) ?_
  show pm_J mX1_ageOf 0 0 LAYC (some (pv_i ρ)) LAYC σ 0 [some (pv_r (b + 28)), some (pv_i x1), some (pv_i x2)] [] LAYC σ
  unfold fX1_ageOf at h
  refine pr_iload_n dX1_ageOf_0 rfl ?_
  refine pr_aload_n dX1_ageOf_1 rfl ?_
  refine pr_getR dX1_ageOf_2 lk_X1_18 (lw_28 hb) rfl ?_
  refine pr_iload_n dX1_ageOf_5 rfl ?_
  obtain ⟨g_1, h⟩ := pm_gs h
  refine pr_iald dX1_ageOf_6 (lw_31 hb) rfl g_1 ?_
  refine pr_isub dX1_ageOf_7 ?_
  refine pr_bipush dX1_ageOf_8 (by decide) ?_
  refine pr_idiv dX1_ageOf_10 rfl (wr_eq (by decide) (by decide)) (by decide) ?_
  have h := Option.some.inj h
  subst h
  exact pr_iret dX1_ageOf_11 rfl
def fX1_isRipe (b : Nat) (x1 : Int) (x2 : Int) (σ : pm_M) : Option (Int) :=
  pm_g (0 ≤ (wr x1) ∧ (wr x1) < 40) (if (wr (σ (b + 30) (Int.toNat (wr x1)))) ≤ 0 then (some 0) else ((fX1_ageOf b x1 x2 σ).bind fun q3 => pm_g (0 ≤ (wr x1) ∧ (wr x1) < 40) (pm_g (0 ≤ (wr (σ (b + 29) (Int.toNat (wr x1)))) ∧ (wr (σ (b + 29) (Int.toNat (wr x1)))) < 9) (if (wr q3) < (wr (σ 11 (Int.toNat (wr (σ (b + 29) (Int.toNat (wr x1))))))) then (some 0) else (some 1)))))
set_option maxHeartbeats 4000000 in
set_option maxRecDepth 100000 in
theorem tmX1_isRipe {b : Nat} (hb : b = 15 ∨ b = 48) {x1 : Int} {x2 : Int} {σ : pm_M} {ρ : Int} (h : fX1_isRipe b x1 x2 σ = some ρ) : pm_C mX1_isRipe 1 22 [pv_r (b + 28), pv_i x1, pv_i x2] LAYC σ (some (pv_i ρ)) LAYC σ := by
  refine pm_C.of rfl rfl (by decide) ?_
  show pm_J mX1_isRipe 1 22 LAYC (some (pv_i ρ)) LAYC σ 0 [some (pv_r (b + 28)), some (pv_i x1), some (pv_i x2)] [] LAYC σ
  unfold fX1_isRipe at h
  refine pr_aload_n dX1_isRipe_0 rfl ?_
  refine pr_getR dX1_isRipe_1 lk_X1_15 (lw_28 hb) rfl ?_
  refine pr_iload_n dX1_isRipe_4 rfl ?_
  obtain ⟨g_1, h⟩ := pm_gs h
  refine pr_iald dX1_isRipe_5 (lw_30 hb) rfl g_1 ?_
  refine pr_if_le (tgt := 36) dX1_isRipe_6 rfl (by decide) (fun c_2 => ?_) (fun c_2 => ?_)
  · have h := pm_pos c_2 h
    refine pr_iconst dX1_isRipe_36 ?_
    have h := Option.some.inj h
    subst h
    exact pr_zret dX1_isRipe_37 rfl (Or.inl rfl)
  · have h := pm_ng c_2 h
    refine pr_aload_n dX1_isRipe_9 rfl ?_
    refine pr_iload_n dX1_isRipe_10 rfl ?_
    refine pr_iload_n dX1_isRipe_11 rfl ?_
    obtain ⟨q3, e4, h⟩ := pm_bs h
    refine pr_callV (As := [pv_i x1, pv_i x2]) (S := []) (t := (b + 28)) dX1_isRipe_12 mk_X1_39 (lw_28 hb) (ci := 1) (q := (RX1, TX1, 7)) rfl rfl rfl rfl (by decide) (by decide) (by decide) (Or.inl rfl) (tmX1_ageOf hb e4) ?_
    refine pr_aload_n dX1_isRipe_15 rfl ?_
    refine pr_getR dX1_isRipe_16 lk_X1_24 (lw_28 hb) rfl ?_
    refine pr_getR dX1_isRipe_19 lk_X1_43 lc_10 rfl ?_
    refine pr_aload_n dX1_isRipe_22 rfl ?_
    refine pr_getR dX1_isRipe_23 lk_X1_9 (lw_28 hb) rfl ?_
    refine pr_iload_n dX1_isRipe_26 rfl ?_
    obtain ⟨g_5, h⟩ := pm_gs h
    refine pr_iald dX1_isRipe_27 (lw_29 hb) rfl g_5 ?_
    obtain ⟨g_6, h⟩ := pm_gs h
    refine pr_iald dX1_isRipe_28 lc_11 rfl g_6 ?_
    refine pr_icmp_lt (tgt := 36) dX1_isRipe_29 rfl rfl (by decide) (fun c_7 => ?_) (fun c_7 => ?_)
    · have h := pm_pos c_7 h
      refine pr_iconst dX1_isRipe_36 ?_
      have h := Option.some.inj h
      subst h
      exact pr_zret dX1_isRipe_37 rfl (Or.inl rfl)
    · have h := pm_ng c_7 h
      refine pr_iconst dX1_isRipe_32 ?_
      refine pr_goto (tgt := 37) dX1_isRipe_33 (by decide) ?_
      have h := Option.some.inj h
      subst h
      exact pr_zret dX1_isRipe_37 rfl (Or.inr rfl)
def bdX1_spoilOld_2 (b : Nat) (y1 : Int) (z2 : Int) (σ : pm_M) : Option ((Int × pm_M) ⊕ (Int × pm_M)) :=
  if (wr (σ (b + 28) 5)) ≤ (wr z2) then (some (.inl (z2, σ))) else (pm_g (0 ≤ (wr z2) ∧ (wr z2) < 40) (pm_g (0 ≤ (wr (σ (b + 29) (Int.toNat (wr z2)))) ∧ (wr (σ (b + 29) (Int.toNat (wr z2)))) < 9) (pm_g (0 ≤ (wr z2) ∧ (wr z2) < 40) (pm_g (0 ≤ (wr (σ (b + 29) (Int.toNat (wr z2)))) ∧ (wr (σ (b + 29) (Int.toNat (wr z2)))) < 9) (pm_g (0 ≤ (wr z2) ∧ (wr z2) < 40) (if (wr (σ (b + 30) (Int.toNat (wr z2)))) ≤ 0 then (some (.inr ((z2 + 1), σ))) else ((fX1_ageOf b z2 y1 σ).bind fun q8 => if (wr q8) ≤ (wr ((σ 11 (Int.toNat (wr (σ (b + 29) (Int.toNat (wr z2)))))) + (σ 12 (Int.toNat (wr (σ (b + 29) (Int.toNat (wr z2)))))))) then (some (.inr ((z2 + 1), σ))) else (pm_g (0 ≤ (wr z2) ∧ (wr z2) < 40) (pm_g (0 ≤ (wr z2) ∧ (wr z2) < 40) (pm_g (0 ≤ (wr z2) ∧ (wr z2) < 40) (pm_g (0 ≤ (wr z2) ∧ (wr z2) < 40) (some (.inr ((z2 + 1), (pm_up (pm_up (pm_up σ (b + 28) 6 ((σ (b + 28) 6) + (σ (b + 30) (Int.toNat (wr z2))))) (b + 32) (Int.toNat (wr z2)) ((pm_up σ (b + 28) 6 ((σ (b + 28) 6) + (σ (b + 30) (Int.toNat (wr z2))))) (b + 30) (Int.toNat (wr z2)))) (b + 30) (Int.toNat (wr z2)) 0)))))))))))))))
set_option maxHeartbeats 4000000 in
set_option maxRecDepth 100000 in
theorem tbX1_spoilOld_2 {lay0 lay' : List pm_S} {r : Option pm_V} {σ' : pm_M} {b : Nat} (hb : b = 15 ∨ b = 48) (y1 : Int) : ∀ (a : Int × pm_M) (e : (Int × pm_M) ⊕ (Int × pm_M)), (fun a => bdX1_spoilOld_2 b y1 a.1 a.2) a = some e → (∀ a, e = .inr a → (fun a => pm_J mX1_spoilOld 1 22 lay0 r lay' σ' 2 [some (pv_r (b + 28)), some (pv_i y1), some (pv_i a.1), none] [] LAYC a.2) a) → (∀ a, e = .inl a → (fun a => pm_J mX1_spoilOld 1 22 lay0 r lay' σ' 99 [none, none, none, none] [] LAYC a.2) a) → (fun a => pm_J mX1_spoilOld 1 22 lay0 r lay' σ' 2 [some (pv_r (b + 28)), some (pv_i y1), some (pv_i a.1), none] [] LAYC a.2) a := by
  intro a e h hc hx
  obtain ⟨z2, σ⟩ := a
  have h : bdX1_spoilOld_2 b y1 z2 σ = some e := h
  unfold bdX1_spoilOld_2 at h
  show pm_J mX1_spoilOld 1 22 lay0 r lay' σ' 2 [some (pv_r (b + 28)), some (pv_i y1), some (pv_i z2), none] [] LAYC σ
  refine pr_iload_n dX1_spoilOld_2 rfl ?_
  refine pr_aload_n dX1_spoilOld_3 rfl ?_
  refine pr_getI dX1_spoilOld_4 lk_X1_32 (lw_28 hb) rfl ?_
  refine pr_icmp_ge (tgt := 99) dX1_spoilOld_7 rfl rfl (by decide) (fun c_1 => ?_) (fun c_1 => ?_)
  · have h := pm_pos c_1 h
    refine pr_weak (L2 := [none, none, none, none]) ⟨Or.inl rfl, Or.inl rfl, Or.inl rfl, Or.inl rfl, trivial⟩ ?_
    exact hx _ (Option.some.inj h).symm
  · have h := pm_ng c_1 h
    refine pr_aload_n dX1_spoilOld_10 rfl ?_
    refine pr_getR dX1_spoilOld_11 lk_X1_24 (lw_28 hb) rfl ?_
    refine pr_getR dX1_spoilOld_14 lk_X1_43 lc_10 rfl ?_
    refine pr_aload_n dX1_spoilOld_17 rfl ?_
    refine pr_getR dX1_spoilOld_18 lk_X1_9 (lw_28 hb) rfl ?_
    refine pr_iload_n dX1_spoilOld_21 rfl ?_
    obtain ⟨g_2, h⟩ := pm_gs h
    refine pr_iald dX1_spoilOld_22 (lw_29 hb) rfl g_2 ?_
    obtain ⟨g_3, h⟩ := pm_gs h
    refine pr_iald dX1_spoilOld_23 lc_11 rfl g_3 ?_
    refine pr_aload_n dX1_spoilOld_24 rfl ?_
    refine pr_getR dX1_spoilOld_25 lk_X1_24 (lw_28 hb) rfl ?_
    refine pr_getR dX1_spoilOld_28 lk_X1_48 lc_10 rfl ?_
    refine pr_aload_n dX1_spoilOld_31 rfl ?_
    refine pr_getR dX1_spoilOld_32 lk_X1_9 (lw_28 hb) rfl ?_
    refine pr_iload_n dX1_spoilOld_35 rfl ?_
    obtain ⟨g_4, h⟩ := pm_gs h
    refine pr_iald dX1_spoilOld_36 (lw_29 hb) rfl g_4 ?_
    obtain ⟨g_5, h⟩ := pm_gs h
    refine pr_iald dX1_spoilOld_37 lc_12 rfl g_5 ?_
    refine pr_iadd dX1_spoilOld_38 ?_
    refine pr_istore_n dX1_spoilOld_39 (by decide) rfl ?_
    refine pr_aload_n dX1_spoilOld_40 rfl ?_
    refine pr_getR dX1_spoilOld_41 lk_X1_15 (lw_28 hb) rfl ?_
    refine pr_iload_n dX1_spoilOld_44 rfl ?_
    obtain ⟨g_6, h⟩ := pm_gs h
    refine pr_iald dX1_spoilOld_45 (lw_30 hb) rfl g_6 ?_
    refine pr_if_le (tgt := 93) dX1_spoilOld_46 rfl (by decide) (fun c_7 => ?_) (fun c_7 => ?_)
    · have h := pm_pos c_7 h
      refine pr_iinc dX1_spoilOld_93 rfl (by decide) rfl ?_
      refine pr_goto (tgt := 2) dX1_spoilOld_96 (by decide) ?_
      refine pr_weak (L2 := [some (pv_r (b + 28)), some (pv_i y1), some (pv_i (z2 + 1)), none]) ⟨Or.inr rfl, Or.inr rfl, Or.inr rfl, Or.inl rfl, trivial⟩ ?_
      exact hc _ (Option.some.inj h).symm
    · have h := pm_ng c_7 h
      refine pr_aload_n dX1_spoilOld_49 rfl ?_
      refine pr_iload_n dX1_spoilOld_50 rfl ?_
      refine pr_iload_n dX1_spoilOld_51 rfl ?_
      obtain ⟨q8, e9, h⟩ := pm_bs h
      refine pr_callV (As := [pv_i z2, pv_i y1]) (S := []) (t := (b + 28)) dX1_spoilOld_52 mk_X1_39 (lw_28 hb) (ci := 1) (q := (RX1, TX1, 7)) rfl rfl rfl rfl (by decide) (by decide) (by decide) (Or.inl rfl) (tmX1_ageOf hb e9) ?_
      refine pr_iload_n dX1_spoilOld_55 rfl ?_
      refine pr_icmp_le (tgt := 93) dX1_spoilOld_56 rfl rfl (by decide) (fun c_10 => ?_) (fun c_10 => ?_)
      · have h := pm_pos c_10 h
        refine pr_iinc dX1_spoilOld_93 rfl (by decide) rfl ?_
        refine pr_goto (tgt := 2) dX1_spoilOld_96 (by decide) ?_
        refine pr_weak (L2 := [some (pv_r (b + 28)), some (pv_i y1), some (pv_i (z2 + 1)), none]) ⟨Or.inr rfl, Or.inr rfl, Or.inr rfl, Or.inl rfl, trivial⟩ ?_
        exact hc _ (Option.some.inj h).symm
      · have h := pm_ng c_10 h
        refine pr_aload_n dX1_spoilOld_59 rfl ?_
        refine pr_dup dX1_spoilOld_60 rfl ?_
        refine pr_getI dX1_spoilOld_61 lk_X1_36 (lw_28 hb) rfl ?_
        refine pr_aload_n dX1_spoilOld_64 rfl ?_
        refine pr_getR dX1_spoilOld_65 lk_X1_15 (lw_28 hb) rfl ?_
        refine pr_iload_n dX1_spoilOld_68 rfl ?_
        obtain ⟨g_11, h⟩ := pm_gs h
        refine pr_iald dX1_spoilOld_69 (lw_30 hb) rfl g_11 ?_
        refine pr_iadd dX1_spoilOld_70 ?_
        refine pr_putI dX1_spoilOld_71 lp_X1_36 (lw_28 hb) rfl ?_
        refine pr_aload_n dX1_spoilOld_74 rfl ?_
        refine pr_getR dX1_spoilOld_75 lk_X1_21 (lw_28 hb) rfl ?_
        refine pr_iload_n dX1_spoilOld_78 rfl ?_
        refine pr_aload_n dX1_spoilOld_79 rfl ?_
        refine pr_getR dX1_spoilOld_80 lk_X1_15 (lw_28 hb) rfl ?_
        refine pr_iload_n dX1_spoilOld_83 rfl ?_
        obtain ⟨g_12, h⟩ := pm_gs h
        refine pr_iald dX1_spoilOld_84 (lw_30 hb) rfl g_12 ?_
        obtain ⟨g_13, h⟩ := pm_gs h
        refine pr_iast dX1_spoilOld_85 (lw_32 hb) rfl g_13 ?_
        refine pr_aload_n dX1_spoilOld_86 rfl ?_
        refine pr_getR dX1_spoilOld_87 lk_X1_15 (lw_28 hb) rfl ?_
        refine pr_iload_n dX1_spoilOld_90 rfl ?_
        refine pr_iconst dX1_spoilOld_91 ?_
        obtain ⟨g_14, h⟩ := pm_gs h
        refine pr_iast dX1_spoilOld_92 (lw_30 hb) rfl g_14 ?_
        refine pr_iinc dX1_spoilOld_93 rfl (by decide) rfl ?_
        refine pr_goto (tgt := 2) dX1_spoilOld_96 (by decide) ?_
        refine pr_weak (L2 := [some (pv_r (b + 28)), some (pv_i y1), some (pv_i (z2 + 1)), none]) ⟨Or.inr rfl, Or.inr rfl, Or.inr rfl, Or.inl rfl, trivial⟩ ?_
        exact hc _ (Option.some.inj h).symm
def fX1_spoilOld (b : Nat) (x1 : Int) (σ : pm_M) : Option (pm_M) :=
  (pm_it (fun a => bdX1_spoilOld_2 b x1 a.1 a.2) pm_fuel (0, σ)).bind fun v15 => some v15.2
set_option maxHeartbeats 4000000 in
set_option maxRecDepth 100000 in
theorem tmX1_spoilOld {b : Nat} (hb : b = 15 ∨ b = 48) {x1 : Int} {σ : pm_M} {ρ : pm_M} (h : fX1_spoilOld b x1 σ = some ρ) : pm_C mX1_spoilOld 1 22 [pv_r (b + 28), pv_i x1] LAYC σ none LAYC ρ := by
  refine pm_C.of rfl rfl (by decide) ?_
  show pm_J mX1_spoilOld 1 22 LAYC none LAYC ρ 0 [some (pv_r (b + 28)), some (pv_i x1), none, none] [] LAYC σ
  unfold fX1_spoilOld at h
  refine pr_iconst dX1_spoilOld_0 ?_
  refine pr_istore_n dX1_spoilOld_1 (by decide) rfl ?_
  obtain ⟨v15, e16, h⟩ := pm_bs h
  refine pr_weak (L2 := [some (pv_r (b + 28)), some (pv_i x1), some (pv_i 0), none]) ⟨Or.inr rfl, Or.inr rfl, Or.inr rfl, Or.inl rfl, trivial⟩ ?_
  refine pm_it_J (P := fun a => pm_J mX1_spoilOld 1 22 LAYC none LAYC ρ 2 [some (pv_r (b + 28)), some (pv_i x1), some (pv_i a.1), none] [] LAYC a.2) (Rx := fun a => pm_J mX1_spoilOld 1 22 LAYC none LAYC ρ 99 [none, none, none, none] [] LAYC a.2) (tbX1_spoilOld_2 hb x1) _ _ _ e16 ?_
  show pm_J mX1_spoilOld 1 22 LAYC none LAYC ρ 99 [none, none, none, none] [] LAYC v15.2
  have h := Option.some.inj h
  subst h
  exact pr_vret dX1_spoilOld_99 rfl
