def fX1_copyFrom (σ : pm_M) : Option (pm_M) :=
  (fX11_copyRow 44 40 77 40 σ).bind fun q1 => (fX11_copyRow 45 40 78 40 q1).bind fun q3 => (fX11_copyRow 46 40 79 40 q3).bind fun q5 => (fX11_copyRow 47 40 80 40 q5).bind fun q7 => some (pm_up (pm_up q7 76 5 (q7 43 5)) 76 6 ((pm_up q7 76 5 (q7 43 5)) 43 6))
set_option maxHeartbeats 4000000 in
set_option maxRecDepth 100000 in
theorem tmX1_copyFrom {σ : pm_M} {ρ : pm_M} (h : fX1_copyFrom σ = some ρ) : pm_C mX1_copyFrom 2 81 [pv_r 76, pv_r 43] LAYC σ none LAYC ρ := by
  refine pm_C.of (by decide) rfl (Nat.le_of_ble_eq_true rfl) ?_
  show pm_J mX1_copyFrom 2 81 LAYC none LAYC ρ 0 [some (pv_r 76), some (pv_r 43)] [] LAYC σ
  unfold fX1_copyFrom at h
  refine pr_aload_n dX1_copyFrom_0 rfl ?_
  refine pr_getR dX1_copyFrom_1 lk_X1_9 lc_43 rfl ?_
  refine pr_aload_n dX1_copyFrom_4 rfl ?_
  refine pr_getR dX1_copyFrom_5 lk_X1_9 lc_76 rfl ?_
  obtain ⟨q1, e2, h⟩ := pm_bs h
  refine pr_callSN (av := [pv_r 44, pv_r 77]) (S := []) dX1_copyFrom_8 mk_X1_28 rfl rfl (Nat.le_of_ble_eq_true rfl) (by decide) (by decide) (Or.inl rfl) (tmX11_copyRow lc_44 lc_77 e2) ?_
  refine pr_aload_n dX1_copyFrom_11 rfl ?_
  refine pr_getR dX1_copyFrom_12 lk_X1_15 lc_43 rfl ?_
  refine pr_aload_n dX1_copyFrom_15 rfl ?_
  refine pr_getR dX1_copyFrom_16 lk_X1_15 lc_76 rfl ?_
  obtain ⟨q3, e4, h⟩ := pm_bs h
  refine pr_callSN (av := [pv_r 45, pv_r 78]) (S := []) dX1_copyFrom_19 mk_X1_28 rfl rfl (Nat.le_of_ble_eq_true rfl) (by decide) (by decide) (Or.inl rfl) (tmX11_copyRow lc_45 lc_78 e4) ?_
  refine pr_aload_n dX1_copyFrom_22 rfl ?_
  refine pr_getR dX1_copyFrom_23 lk_X1_18 lc_43 rfl ?_
  refine pr_aload_n dX1_copyFrom_26 rfl ?_
  refine pr_getR dX1_copyFrom_27 lk_X1_18 lc_76 rfl ?_
  obtain ⟨q5, e6, h⟩ := pm_bs h
  refine pr_callSN (av := [pv_r 46, pv_r 79]) (S := []) dX1_copyFrom_30 mk_X1_28 rfl rfl (Nat.le_of_ble_eq_true rfl) (by decide) (by decide) (Or.inl rfl) (tmX11_copyRow lc_46 lc_79 e6) ?_
  refine pr_aload_n dX1_copyFrom_33 rfl ?_
  refine pr_getR dX1_copyFrom_34 lk_X1_21 lc_43 rfl ?_
  refine pr_aload_n dX1_copyFrom_37 rfl ?_
  refine pr_getR dX1_copyFrom_38 lk_X1_21 lc_76 rfl ?_
  obtain ⟨q7, e8, h⟩ := pm_bs h
  refine pr_callSN (av := [pv_r 47, pv_r 80]) (S := []) dX1_copyFrom_41 mk_X1_28 rfl rfl (Nat.le_of_ble_eq_true rfl) (by decide) (by decide) (Or.inl rfl) (tmX11_copyRow lc_47 lc_80 e8) ?_
  refine pr_aload_n dX1_copyFrom_44 rfl ?_
  refine pr_aload_n dX1_copyFrom_45 rfl ?_
  refine pr_getI dX1_copyFrom_46 lk_X1_32 lc_43 rfl ?_
  refine pr_putI dX1_copyFrom_49 lp_X1_32 lc_76 rfl ?_
  refine pr_aload_n dX1_copyFrom_52 rfl ?_
  refine pr_aload_n dX1_copyFrom_53 rfl ?_
  refine pr_getI dX1_copyFrom_54 lk_X1_36 lc_43 rfl ?_
  refine pr_putI dX1_copyFrom_57 lp_X1_36 lc_76 rfl ?_
  have h := Option.some.inj h
  subst h
  exact pr_vret dX1_copyFrom_60 rfl
def fX1_lay (b : Nat) (x1 : Int) (x2 : Int) (x3 : Int) (σ : pm_M) : Option (Int × pm_M) :=
  pm_g (0 ≤ (wr (σ (b + 28) 5)) ∧ (wr (σ (b + 28) 5)) < 40) (pm_g (0 ≤ (wr ((pm_up σ (b + 29) (Int.toNat (wr (σ (b + 28) 5))) x1) (b + 28) 5)) ∧ (wr ((pm_up σ (b + 29) (Int.toNat (wr (σ (b + 28) 5))) x1) (b + 28) 5)) < 40) (pm_g (0 ≤ (wr ((pm_up (pm_up σ (b + 29) (Int.toNat (wr (σ (b + 28) 5))) x1) (b + 30) (Int.toNat (wr ((pm_up σ (b + 29) (Int.toNat (wr (σ (b + 28) 5))) x1) (b + 28) 5))) x2) (b + 28) 5)) ∧ (wr ((pm_up (pm_up σ (b + 29) (Int.toNat (wr (σ (b + 28) 5))) x1) (b + 30) (Int.toNat (wr ((pm_up σ (b + 29) (Int.toNat (wr (σ (b + 28) 5))) x1) (b + 28) 5))) x2) (b + 28) 5)) < 40) (some ((((pm_up (pm_up (pm_up (pm_up σ (b + 29) (Int.toNat (wr (σ (b + 28) 5))) x1) (b + 30) (Int.toNat (wr ((pm_up σ (b + 29) (Int.toNat (wr (σ (b + 28) 5))) x1) (b + 28) 5))) x2) (b + 31) (Int.toNat (wr ((pm_up (pm_up σ (b + 29) (Int.toNat (wr (σ (b + 28) 5))) x1) (b + 30) (Int.toNat (wr ((pm_up σ (b + 29) (Int.toNat (wr (σ (b + 28) 5))) x1) (b + 28) 5))) x2) (b + 28) 5))) x3) (b + 28) 5 (((pm_up (pm_up (pm_up σ (b + 29) (Int.toNat (wr (σ (b + 28) 5))) x1) (b + 30) (Int.toNat (wr ((pm_up σ (b + 29) (Int.toNat (wr (σ (b + 28) 5))) x1) (b + 28) 5))) x2) (b + 31) (Int.toNat (wr ((pm_up (pm_up σ (b + 29) (Int.toNat (wr (σ (b + 28) 5))) x1) (b + 30) (Int.toNat (wr ((pm_up σ (b + 29) (Int.toNat (wr (σ (b + 28) 5))) x1) (b + 28) 5))) x2) (b + 28) 5))) x3) (b + 28) 5) + 1)) (b + 28) 5) - 1), (pm_up (pm_up (pm_up (pm_up σ (b + 29) (Int.toNat (wr (σ (b + 28) 5))) x1) (b + 30) (Int.toNat (wr ((pm_up σ (b + 29) (Int.toNat (wr (σ (b + 28) 5))) x1) (b + 28) 5))) x2) (b + 31) (Int.toNat (wr ((pm_up (pm_up σ (b + 29) (Int.toNat (wr (σ (b + 28) 5))) x1) (b + 30) (Int.toNat (wr ((pm_up σ (b + 29) (Int.toNat (wr (σ (b + 28) 5))) x1) (b + 28) 5))) x2) (b + 28) 5))) x3) (b + 28) 5 (((pm_up (pm_up (pm_up σ (b + 29) (Int.toNat (wr (σ (b + 28) 5))) x1) (b + 30) (Int.toNat (wr ((pm_up σ (b + 29) (Int.toNat (wr (σ (b + 28) 5))) x1) (b + 28) 5))) x2) (b + 31) (Int.toNat (wr ((pm_up (pm_up σ (b + 29) (Int.toNat (wr (σ (b + 28) 5))) x1) (b + 30) (Int.toNat (wr ((pm_up σ (b + 29) (Int.toNat (wr (σ (b + 28) 5))) x1) (b + 28) 5))) x2) (b + 28) 5))) x3) (b + 28) 5) + 1))))))
set_option maxHeartbeats 4000000 in
set_option maxRecDepth 100000 in
theorem tmX1_lay {b : Nat} (hb : b = 15 ∨ b = 48) {x1 : Int} {x2 : Int} {x3 : Int} {σ : pm_M} {ρ : Int × pm_M} (h : fX1_lay b x1 x2 x3 σ = some ρ) : pm_C mX1_lay 0 0 [pv_r (b + 28), pv_i x1, pv_i x2, pv_i x3] LAYC σ (some (pv_i ρ.1)) LAYC ρ.2 := by
  refine pm_C.of (by decide) rfl (Nat.le_of_ble_eq_true rfl) ?_
  show pm_J mX1_lay 0 0 LAYC (some (pv_i ρ.1)) LAYC ρ.2 0 [some (pv_r (b + 28)), some (pv_i x1), some (pv_i x2), some (pv_i x3)] [] LAYC σ
  unfold fX1_lay at h
  refine pr_aload_n dX1_lay_0 rfl ?_
  refine pr_getR dX1_lay_1 lk_X1_9 (lw_28 hb) rfl ?_
  refine pr_aload_n dX1_lay_4 rfl ?_
  refine pr_getI dX1_lay_5 lk_X1_32 (lw_28 hb) rfl ?_
  refine pr_iload_n dX1_lay_8 rfl ?_
  obtain ⟨g_1, h⟩ := pm_gs h
  refine pr_iast dX1_lay_9 (lw_29 hb) rfl g_1 ?_
  refine pr_aload_n dX1_lay_10 rfl ?_
  refine pr_getR dX1_lay_11 lk_X1_15 (lw_28 hb) rfl ?_
  refine pr_aload_n dX1_lay_14 rfl ?_
  refine pr_getI dX1_lay_15 lk_X1_32 (lw_28 hb) rfl ?_
  refine pr_iload_n dX1_lay_18 rfl ?_
  obtain ⟨g_2, h⟩ := pm_gs h
  refine pr_iast dX1_lay_19 (lw_30 hb) rfl g_2 ?_
  refine pr_aload_n dX1_lay_20 rfl ?_
  refine pr_getR dX1_lay_21 lk_X1_18 (lw_28 hb) rfl ?_
  refine pr_aload_n dX1_lay_24 rfl ?_
  refine pr_getI dX1_lay_25 lk_X1_32 (lw_28 hb) rfl ?_
  refine pr_iload_n dX1_lay_28 rfl ?_
  obtain ⟨g_3, h⟩ := pm_gs h
  refine pr_iast dX1_lay_29 (lw_31 hb) rfl g_3 ?_
  refine pr_aload_n dX1_lay_30 rfl ?_
  refine pr_dup dX1_lay_31 rfl ?_
  refine pr_getI dX1_lay_32 lk_X1_32 (lw_28 hb) rfl ?_
  refine pr_iconst dX1_lay_35 ?_
  refine pr_iadd dX1_lay_36 ?_
  refine pr_putI dX1_lay_37 lp_X1_32 (lw_28 hb) rfl ?_
  refine pr_aload_n dX1_lay_40 rfl ?_
  refine pr_getI dX1_lay_41 lk_X1_32 (lw_28 hb) rfl ?_
  refine pr_iconst dX1_lay_44 ?_
  refine pr_isub dX1_lay_45 ?_
  have h := Option.some.inj h
  subst h
  exact pr_iret dX1_lay_46 rfl
def fX1_ageOf (b : Nat) (x1 : Int) (x2 : Int) (σ : pm_M) : Option (Int) :=
  pm_g (0 ≤ (wr x1) ∧ (wr x1) < 40) (some (Int.tdiv (wr (x2 - (σ (b + 31) (Int.toNat (wr x1))))) 24))
set_option maxHeartbeats 4000000 in
set_option maxRecDepth 100000 in
theorem tmX1_ageOf {b : Nat} (hb : b = 15 ∨ b = 48) {x1 : Int} {x2 : Int} {σ : pm_M} {ρ : Int} (h : fX1_ageOf b x1 x2 σ = some ρ) : pm_C mX1_ageOf 0 0 [pv_r (b + 28), pv_i x1, pv_i x2] LAYC σ (some (pv_i ρ)) LAYC σ := by
  refine pm_C.of (by decide) rfl (Nat.le_of_ble_eq_true rfl) ?_
  show pm_J mX1_ageOf 0 0 LAYC (some (pv_i ρ)) LAYC σ 0 [some (pv_r (b + 28)), some (pv_i x1), some (pv_i x2)] [] LAYC σ
  unfold fX1_ageOf at h
  refine pr_iload_n dX1_ageOf_0 rfl ?_
  refine pr_aload_n dX1_ageOf_1 rfl ?_
  refine pr_getR dX1_ageOf_2 lk_X1_18 (lw_28 hb) rfl ?_
  refine pr_iload_n dX1_ageOf_5 rfl ?_
  obtain ⟨g_1, h⟩ := pm_gs h
  refine pr_iald dX1_ageOf_6 (lw_31 hb) rfl g_1 ?_
  refine pr_isub dX1_ageOf_7 ?_
  refine pr_bipush dX1_ageOf_8 (by decide) ?_
  refine pr_idiv dX1_ageOf_10 rfl (wr_eq (by decide) (by decide)) (by decide) ?_
  have h := Option.some.inj h
  subst h
  exact pr_iret dX1_ageOf_11 rfl
def fX1_isRipe (b : Nat) (x1 : Int) (x2 : Int) (σ : pm_M) : Option (Int) :=
  pm_g (0 ≤ (wr x1) ∧ (wr x1) < 40) (if (wr (σ (b + 30) (Int.toNat (wr x1)))) ≤ 0 then (some 0) else ((fX1_ageOf b x1 x2 σ).bind fun q3 => pm_g (0 ≤ (wr x1) ∧ (wr x1) < 40) (pm_g (0 ≤ (wr (σ (b + 29) (Int.toNat (wr x1)))) ∧ (wr (σ (b + 29) (Int.toNat (wr x1)))) < 9) (if (wr q3) < (wr (σ 11 (Int.toNat (wr (σ (b + 29) (Int.toNat (wr x1))))))) then (some 0) else (some 1)))))
set_option maxHeartbeats 4000000 in
set_option maxRecDepth 100000 in
theorem tmX1_isRipe {b : Nat} (hb : b = 15 ∨ b = 48) {x1 : Int} {x2 : Int} {σ : pm_M} {ρ : Int} (h : fX1_isRipe b x1 x2 σ = some ρ) : pm_C mX1_isRipe 1 22 [pv_r (b + 28), pv_i x1, pv_i x2] LAYC σ (some (pv_i ρ)) LAYC σ := by
  refine pm_C.of (by decide) rfl (Nat.le_of_ble_eq_true rfl) ?_
  show pm_J mX1_isRipe 1 22 LAYC (some (pv_i ρ)) LAYC σ 0 [some (pv_r (b + 28)), some (pv_i x1), some (pv_i x2)] [] LAYC σ
  unfold fX1_isRipe at h
  refine pr_aload_n dX1_isRipe_0 rfl ?_
  refine pr_getR dX1_isRipe_1 lk_X1_15 (lw_28 hb) rfl ?_
  refine pr_iload_n dX1_isRipe_4 rfl ?_
  obtain ⟨g_1, h⟩ := pm_gs h
  refine pr_iald dX1_isRipe_5 (lw_30 hb) rfl g_1 ?_
  refine pr_if_le (tgt := 36) dX1_isRipe_6 rfl (by decide) (fun c_2 => ?_) (fun c_2 => ?_)
  · have h := pm_pos c_2 h
    refine pr_iconst dX1_isRipe_36 ?_
    have h := Option.some.inj h
    subst h
    exact pr_zret dX1_isRipe_37 rfl (Or.inl rfl)
  · have h := pm_ng c_2 h
    refine pr_aload_n dX1_isRipe_9 rfl ?_
    refine pr_iload_n dX1_isRipe_10 rfl ?_
    refine pr_iload_n dX1_isRipe_11 rfl ?_
    obtain ⟨q3, e4, h⟩ := pm_bs h
    refine pr_callV (As := [pv_i x1, pv_i x2]) (S := []) (t := (b + 28)) dX1_isRipe_12 mk_X1_39 (lw_28 hb) (ci := 1) (q := (RX1, TX1, 7)) rfl rfl rfl rfl (Nat.le_of_ble_eq_true rfl) (by decide) (by decide) (Or.inl rfl) (tmX1_ageOf hb e4) ?_
    refine pr_aload_n dX1_isRipe_15 rfl ?_
    refine pr_getR dX1_isRipe_16 lk_X1_24 (lw_28 hb) rfl ?_
    refine pr_getR dX1_isRipe_19 lk_X1_43 lc_10 rfl ?_
    refine pr_aload_n dX1_isRipe_22 rfl ?_
    refine pr_getR dX1_isRipe_23 lk_X1_9 (lw_28 hb) rfl ?_
    refine pr_iload_n dX1_isRipe_26 rfl ?_
    obtain ⟨g_5, h⟩ := pm_gs h
    refine pr_iald dX1_isRipe_27 (lw_29 hb) rfl g_5 ?_
    obtain ⟨g_6, h⟩ := pm_gs h
    refine pr_iald dX1_isRipe_28 lc_11 rfl g_6 ?_
    refine pr_icmp_lt (tgt := 36) dX1_isRipe_29 rfl rfl (by decide) (fun c_7 => ?_) (fun c_7 => ?_)
    · have h := pm_pos c_7 h
      refine pr_iconst dX1_isRipe_36 ?_
      have h := Option.some.inj h
      subst h
      exact pr_zret dX1_isRipe_37 rfl (Or.inl rfl)
    · have h := pm_ng c_7 h
      refine pr_iconst dX1_isRipe_32 ?_
      refine pr_goto (tgt := 37) dX1_isRipe_33 (by decide) ?_
      have h := Option.some.inj h
      subst h
      exact pr_zret dX1_isRipe_37 rfl (Or.inr rfl)
def bdX1_spoilOld_2 (b : Nat) (y1 : Int) (z2 : Int) (σ : pm_M) : Option ((Int × pm_M) ⊕ (Int × pm_M)) :=
  if (wr (σ (b + 28) 5)) ≤ (wr z2) then (some (.inl (z2, σ))) else (pm_g (0 ≤ (wr z2) ∧ (wr z2) < 40) (pm_g (0 ≤ (wr (σ (b + 29) (Int.toNat (wr z2)))) ∧ (wr (σ (b + 29) (Int.toNat (wr z2)))) < 9) (pm_g (0 ≤ (wr z2) ∧ (wr z2) < 40) (pm_g (0 ≤ (wr (σ (b + 29) (Int.toNat (wr z2)))) ∧ (wr (σ (b + 29) (Int.toNat (wr z2)))) < 9) (pm_g (0 ≤ (wr z2) ∧ (wr z2) < 40) (if (wr (σ (b + 30) (Int.toNat (wr z2)))) ≤ 0 then (some (.inr ((z2 + 1), σ))) else ((fX1_ageOf b z2 y1 σ).bind fun q8 => if (wr q8) ≤ (wr ((σ 11 (Int.toNat (wr (σ (b + 29) (Int.toNat (wr z2)))))) + (σ 12 (Int.toNat (wr (σ (b + 29) (Int.toNat (wr z2)))))))) then (some (.inr ((z2 + 1), σ))) else (pm_g (0 ≤ (wr z2) ∧ (wr z2) < 40) (pm_g (0 ≤ (wr z2) ∧ (wr z2) < 40) (pm_g (0 ≤ (wr z2) ∧ (wr z2) < 40) (pm_g (0 ≤ (wr z2) ∧ (wr z2) < 40) (some (.inr ((z2 + 1), (pm_up (pm_up (pm_up σ (b + 28) 6 ((σ (b + 28) 6) + (σ (b + 30) (Int.toNat (wr z2))))) (b + 32) (Int.toNat (wr z2)) ((pm_up σ (b + 28) 6 ((σ (b + 28) 6) + (σ (b + 30) (Int.toNat (wr z2))))) (b + 30) (Int.toNat (wr z2)))) (b + 30) (Int.toNat (wr z2)) 0)))))))))))))))
set_option maxHeartbeats 4000000 in
set_option maxRecDepth 100000 in
theorem tbX1_spoilOld_2 {lay0 lay' : List pm_S} {r : Option pm_V} {σ' : pm_M} {b : Nat} (hb : b = 15 ∨ b = 48) (y1 : Int) : ∀ (a : Int × pm_M) (e : (Int × pm_M) ⊕ (Int × pm_M)), (fun a => bdX1_spoilOld_2 b y1 a.1 a.2) a = some e → (∀ a, e = .inr a → (fun a => pm_J mX1_spoilOld 1 22 lay0 r lay' σ' 2 [some (pv_r (b + 28)), some (pv_i y1), some (pv_i a.1), none] [] LAYC a.2) a) → (∀ a, e = .inl a → (fun a => pm_J mX1_spoilOld 1 22 lay0 r lay' σ' 99 [none, none, none, none] [] LAYC a.2) a) → (fun a => pm_J mX1_spoilOld 1 22 lay0 r lay' σ' 2 [some (pv_r (b + 28)), some (pv_i y1), some (pv_i a.1), none] [] LAYC a.2) a := by
  intro a e h hc hx
  obtain ⟨z2, σ⟩ := a
  have h : bdX1_spoilOld_2 b y1 z2 σ = some e := h
  unfold bdX1_spoilOld_2 at h
  show pm_J mX1_spoilOld 1 22 lay0 r lay' σ' 2 [some (pv_r (b + 28)), some (pv_i y1), some (pv_i z2), none] [] LAYC σ
  refine pr_iload_n dX1_spoilOld_2 rfl ?_
  refine pr_aload_n dX1_spoilOld_3 rfl ?_
  refine pr_getI dX1_spoilOld_4 lk_X1_32 (lw_28 hb) rfl ?_
  refine pr_icmp_ge (tgt := 99) dX1_spoilOld_7 rfl rfl (by decide) (fun c_1 => ?_) (fun c_1 => ?_)
  · have h := pm_pos c_1 h
    refine pr_weak (L2 := [none, none, none, none]) ⟨Or.inl rfl, Or.inl rfl, Or.inl rfl, Or.inl rfl, trivial⟩ ?_
    exact hx (z2, σ) (Option.some.inj h).symm
  · have h := pm_ng c_1 h
    refine pr_aload_n dX1_spoilOld_10 rfl ?_
    refine pr_getR dX1_spoilOld_11 lk_X1_24 (lw_28 hb) rfl ?_
    refine pr_getR dX1_spoilOld_14 lk_X1_43 lc_10 rfl ?_
    refine pr_aload_n dX1_spoilOld_17 rfl ?_
    refine pr_getR dX1_spoilOld_18 lk_X1_9 (lw_28 hb) rfl ?_
    refine pr_iload_n dX1_spoilOld_21 rfl ?_
    obtain ⟨g_2, h⟩ := pm_gs h
    refine pr_iald dX1_spoilOld_22 (lw_29 hb) rfl g_2 ?_
    obtain ⟨g_3, h⟩ := pm_gs h
    refine pr_iald dX1_spoilOld_23 lc_11 rfl g_3 ?_
    refine pr_aload_n dX1_spoilOld_24 rfl ?_
    refine pr_getR dX1_spoilOld_25 lk_X1_24 (lw_28 hb) rfl ?_
    refine pr_getR dX1_spoilOld_28 lk_X1_48 lc_10 rfl ?_
    refine pr_aload_n dX1_spoilOld_31 rfl ?_
    refine pr_getR dX1_spoilOld_32 lk_X1_9 (lw_28 hb) rfl ?_
    refine pr_iload_n dX1_spoilOld_35 rfl ?_
    obtain ⟨g_4, h⟩ := pm_gs h
    refine pr_iald dX1_spoilOld_36 (lw_29 hb) rfl g_4 ?_
    obtain ⟨g_5, h⟩ := pm_gs h
    refine pr_iald dX1_spoilOld_37 lc_12 rfl g_5 ?_
    refine pr_iadd dX1_spoilOld_38 ?_
    refine pr_istore_n dX1_spoilOld_39 (by decide) rfl ?_
    refine pr_aload_n dX1_spoilOld_40 rfl ?_
    refine pr_getR dX1_spoilOld_41 lk_X1_15 (lw_28 hb) rfl ?_
    refine pr_iload_n dX1_spoilOld_44 rfl ?_
    obtain ⟨g_6, h⟩ := pm_gs h
    refine pr_iald dX1_spoilOld_45 (lw_30 hb) rfl g_6 ?_
    refine pr_if_le (tgt := 93) dX1_spoilOld_46 rfl (by decide) (fun c_7 => ?_) (fun c_7 => ?_)
    · have h := pm_pos c_7 h
      refine pr_iinc dX1_spoilOld_93 rfl (by decide) rfl ?_
      refine pr_goto (tgt := 2) dX1_spoilOld_96 (by decide) ?_
      refine pr_weak (L2 := [some (pv_r (b + 28)), some (pv_i y1), some (pv_i (z2 + 1)), none]) ⟨Or.inr rfl, Or.inr rfl, Or.inr rfl, Or.inl rfl, trivial⟩ ?_
      exact hc ((z2 + 1), σ) (Option.some.inj h).symm
    · have h := pm_ng c_7 h
      refine pr_aload_n dX1_spoilOld_49 rfl ?_
      refine pr_iload_n dX1_spoilOld_50 rfl ?_
      refine pr_iload_n dX1_spoilOld_51 rfl ?_
      obtain ⟨q8, e9, h⟩ := pm_bs h
      refine pr_callV (As := [pv_i z2, pv_i y1]) (S := []) (t := (b + 28)) dX1_spoilOld_52 mk_X1_39 (lw_28 hb) (ci := 1) (q := (RX1, TX1, 7)) rfl rfl rfl rfl (Nat.le_of_ble_eq_true rfl) (by decide) (by decide) (Or.inl rfl) (tmX1_ageOf hb e9) ?_
      refine pr_iload_n dX1_spoilOld_55 rfl ?_
      refine pr_icmp_le (tgt := 93) dX1_spoilOld_56 rfl rfl (by decide) (fun c_10 => ?_) (fun c_10 => ?_)
      · have h := pm_pos c_10 h
        refine pr_iinc dX1_spoilOld_93 rfl (by decide) rfl ?_
        refine pr_goto (tgt := 2) dX1_spoilOld_96 (by decide) ?_
        refine pr_weak (L2 := [some (pv_r (b + 28)), some (pv_i y1), some (pv_i (z2 + 1)), none]) ⟨Or.inr rfl, Or.inr rfl, Or.inr rfl, Or.inl rfl, trivial⟩ ?_
        exact hc ((z2 + 1), σ) (Option.some.inj h).symm
      · have h := pm_ng c_10 h
        refine pr_aload_n dX1_spoilOld_59 rfl ?_
        refine pr_dup dX1_spoilOld_60 rfl ?_
        refine pr_getI dX1_spoilOld_61 lk_X1_36 (lw_28 hb) rfl ?_
        refine pr_aload_n dX1_spoilOld_64 rfl ?_
        refine pr_getR dX1_spoilOld_65 lk_X1_15 (lw_28 hb) rfl ?_
        refine pr_iload_n dX1_spoilOld_68 rfl ?_
        obtain ⟨g_11, h⟩ := pm_gs h
        refine pr_iald dX1_spoilOld_69 (lw_30 hb) rfl g_11 ?_
        refine pr_iadd dX1_spoilOld_70 ?_
        refine pr_putI dX1_spoilOld_71 lp_X1_36 (lw_28 hb) rfl ?_
        refine pr_aload_n dX1_spoilOld_74 rfl ?_
        refine pr_getR dX1_spoilOld_75 lk_X1_21 (lw_28 hb) rfl ?_
        refine pr_iload_n dX1_spoilOld_78 rfl ?_
        refine pr_aload_n dX1_spoilOld_79 rfl ?_
        refine pr_getR dX1_spoilOld_80 lk_X1_15 (lw_28 hb) rfl ?_
        refine pr_iload_n dX1_spoilOld_83 rfl ?_
        obtain ⟨g_12, h⟩ := pm_gs h
        refine pr_iald dX1_spoilOld_84 (lw_30 hb) rfl g_12 ?_
        obtain ⟨g_13, h⟩ := pm_gs h
        refine pr_iast dX1_spoilOld_85 (lw_32 hb) rfl g_13 ?_
        refine pr_aload_n dX1_spoilOld_86 rfl ?_
        refine pr_getR dX1_spoilOld_87 lk_X1_15 (lw_28 hb) rfl ?_
        refine pr_iload_n dX1_spoilOld_90 rfl ?_
        refine pr_iconst dX1_spoilOld_91 ?_
        obtain ⟨g_14, h⟩ := pm_gs h
        refine pr_iast dX1_spoilOld_92 (lw_30 hb) rfl g_14 ?_
        refine pr_iinc dX1_spoilOld_93 rfl (by decide) rfl ?_
        refine pr_goto (tgt := 2) dX1_spoilOld_96 (by decide) ?_
        refine pr_weak (L2 := [some (pv_r (b + 28)), some (pv_i y1), some (pv_i (z2 + 1)), none]) ⟨Or.inr rfl, Or.inr rfl, Or.inr rfl, Or.inl rfl, trivial⟩ ?_
        exact hc ((z2 + 1), (pm_up (pm_up (pm_up σ (b + 28) 6 ((σ (b + 28) 6) + (σ (b + 30) (Int.toNat (wr z2))))) (b + 32) (Int.toNat (wr z2)) ((pm_up σ (b + 28) 6 ((σ (b + 28) 6) + (σ (b + 30) (Int.toNat (wr z2))))) (b + 30) (Int.toNat (wr z2)))) (b + 30) (Int.toNat (wr z2)) 0)) (Option.some.inj h).symm
def fX1_spoilOld (b : Nat) (x1 : Int) (σ : pm_M) : Option (pm_M) :=
  (pm_it (fun a => bdX1_spoilOld_2 b x1 a.1 a.2) pm_fuel (0, σ)).bind fun v15 => some v15.2
set_option maxHeartbeats 4000000 in
set_option maxRecDepth 100000 in
theorem tmX1_spoilOld {b : Nat} (hb : b = 15 ∨ b = 48) {x1 : Int} {σ : pm_M} {ρ : pm_M} (h : fX1_spoilOld b x1 σ = some ρ) : pm_C mX1_spoilOld 1 22 [pv_r (b + 28), pv_i x1] LAYC σ none LAYC ρ := by
  refine pm_C.of (by decide) rfl (Nat.le_of_ble_eq_true rfl) ?_
  show pm_J mX1_spoilOld 1 22 LAYC none LAYC ρ 0 [some (pv_r (b + 28)), some (pv_i x1), none, none] [] LAYC σ
  unfold fX1_spoilOld at h
  refine pr_iconst dX1_spoilOld_0 ?_
  refine pr_istore_n dX1_spoilOld_1 (by decide) rfl ?_
  obtain ⟨v15, e16, h⟩ := pm_bs h
  refine pr_weak (L2 := [some (pv_r (b + 28)), some (pv_i x1), some (pv_i 0), none]) ⟨Or.inr rfl, Or.inr rfl, Or.inr rfl, Or.inl rfl, trivial⟩ ?_
  refine pm_it_J (α := Int × pm_M) (β := Int × pm_M) (f := fun a => bdX1_spoilOld_2 b x1 a.1 a.2) (P := fun a => pm_J mX1_spoilOld 1 22 LAYC none LAYC ρ 2 [some (pv_r (b + 28)), some (pv_i x1), some (pv_i a.1), none] [] LAYC a.2) (Rx := fun a => pm_J mX1_spoilOld 1 22 LAYC none LAYC ρ 99 [none, none, none, none] [] LAYC a.2) (tbX1_spoilOld_2 hb x1) pm_fuel (0, σ) v15 e16 ?_
  show pm_J mX1_spoilOld 1 22 LAYC none LAYC ρ 99 [none, none, none, none] [] LAYC v15.2
  have h := Option.some.inj h
  subst h
  exact pr_vret dX1_spoilOld_99 rfl
