def fX8_endPost (b : Nat) (x1 : Int) (x2 : Int) (σ : pm_M) : Option (pm_M) :=
  pm_g (0 ≤ (wr x1) ∧ (wr x1) < 3) ((fX2_keep b (σ (b + 11) 8) (x1 * 12) (σ (b + 23) (Int.toNat (wr x1))) σ).bind fun q2 => pm_g (0 ≤ (wr x1) ∧ (wr x1) < 3) (pm_g (0 ≤ (wr x1) ∧ (wr x1) < 3) ((fX6_add b (q2 (b + 23) (Int.toNat (wr x1))) (q2 (b + 24) (Int.toNat (wr x1))) x2 q2).bind fun q6 => pm_g (0 ≤ (wr x1) ∧ (wr x1) < 3) (some (pm_up q6 (b + 25) (Int.toNat (wr x1)) 0)))))
set_option maxHeartbeats 4000000 in
set_option maxRecDepth 100000 in
theorem tmX8_endPost {b : Nat} (hb : b = 15 ∨ b = 48) {x1 : Int} {x2 : Int} {σ : pm_M} {ρ : pm_M} (h : fX8_endPost b x1 x2 σ = some ρ) : pm_C mX8_endPost 2 87 [pv_r (b + 22), pv_i x1, pv_i x2] LAYC σ none LAYC ρ := by
  refine pm_C.of (by decide) rfl (Nat.le_of_ble_eq_true rfl) ?_
  show pm_J mX8_endPost 2 87 LAYC none LAYC ρ 0 [some (pv_r (b + 22)), some (pv_i x1), some (pv_i x2)] [] LAYC σ
  unfold fX8_endPost at h
  refine pr_aload_n dX8_endPost_0 rfl ?_
  refine pr_getR dX8_endPost_1 lk_X8_34 (lw_22 hb) rfl ?_
  refine pr_getR dX8_endPost_4 lk_X8_89 (lw_11 hb) rfl ?_
  refine pr_aload_n dX8_endPost_7 rfl ?_
  refine pr_getR dX8_endPost_8 lk_X8_34 (lw_22 hb) rfl ?_
  refine pr_getI dX8_endPost_11 lk_X8_60 (lw_11 hb) rfl ?_
  refine pr_aload_n dX8_endPost_14 rfl ?_
  refine pr_getR dX8_endPost_15 lk_X8_24 (lw_22 hb) rfl ?_
  refine pr_iload_n dX8_endPost_18 rfl ?_
  refine pr_bipush dX8_endPost_19 (by decide) ?_
  refine pr_imul dX8_endPost_21 ?_
  refine pr_aload_n dX8_endPost_22 rfl ?_
  refine pr_getR dX8_endPost_23 lk_X8_30 (lw_22 hb) rfl ?_
  refine pr_aload_n dX8_endPost_26 rfl ?_
  refine pr_getR dX8_endPost_27 lk_X8_9 (lw_22 hb) rfl ?_
  refine pr_iload_n dX8_endPost_30 rfl ?_
  obtain ⟨g_1, h⟩ := pm_gs h
  refine pr_iald dX8_endPost_31 (lw_23 hb) rfl g_1 ?_
  obtain ⟨q2, e3, h⟩ := pm_bs h
  refine pr_callV (As := [pv_i (σ (b + 11) 8), pv_r (b + 27), pv_i (x1 * 12), pv_r (b + 7), pv_i (σ (b + 23) (Int.toNat (wr x1)))]) (S := []) (t := (b + 12)) dX8_endPost_32 mk_X8_93 (lw_12 hb) (ci := 2) (q := (RX2, TX2, 2)) rfl rfl rfl rfl (Nat.le_of_ble_eq_true rfl) (by decide) (by decide) (Or.inl rfl) (tmX2_keep hb e3) ?_
  refine pr_aload_n dX8_endPost_35 rfl ?_
  refine pr_getR dX8_endPost_36 lk_X8_34 (lw_22 hb) rfl ?_
  refine pr_aload_n dX8_endPost_39 rfl ?_
  refine pr_getR dX8_endPost_40 lk_X8_9 (lw_22 hb) rfl ?_
  refine pr_iload_n dX8_endPost_43 rfl ?_
  obtain ⟨g_4, h⟩ := pm_gs h
  refine pr_iald dX8_endPost_44 (lw_23 hb) rfl g_4 ?_
  refine pr_aload_n dX8_endPost_45 rfl ?_
  refine pr_getR dX8_endPost_46 lk_X8_15 (lw_22 hb) rfl ?_
  refine pr_iload_n dX8_endPost_49 rfl ?_
  obtain ⟨g_5, h⟩ := pm_gs h
  refine pr_iald dX8_endPost_50 (lw_24 hb) rfl g_5 ?_
  refine pr_iload_n dX8_endPost_51 rfl ?_
  obtain ⟨q6, e7, h⟩ := pm_bs h
  refine pr_callV (As := [pv_i (q2 (b + 23) (Int.toNat (wr x1))), pv_i (q2 (b + 24) (Int.toNat (wr x1))), pv_i x2]) (S := []) (t := (b + 11)) dX8_endPost_52 mk_X8_99 (lw_11 hb) (ci := 6) (q := (RX6, TX6, 12)) rfl rfl rfl rfl (Nat.le_of_ble_eq_true rfl) (by decide) (by decide) (Or.inl rfl) (tmX6_add hb e7) ?_
  refine pr_aload_n dX8_endPost_55 rfl ?_
  refine pr_getR dX8_endPost_56 lk_X8_18 (lw_22 hb) rfl ?_
  refine pr_iload_n dX8_endPost_59 rfl ?_
  refine pr_iconst dX8_endPost_60 ?_
  obtain ⟨g_8, h⟩ := pm_gs h
  refine pr_iast dX8_endPost_61 (lw_25 hb) rfl g_8 ?_
  have h := Option.some.inj h
  subst h
  exact pr_vret dX8_endPost_62 rfl
def bdX8_makeSheets_2 (b : Nat) (y1 : Int) (y2 : Int) (z3 : Int) (σ : pm_M) : Option ((Int × pm_M) ⊕ (Int × pm_M)) :=
  if 20 ≤ (wr z3) then (some (.inl (z3, σ))) else ((fX8_canMake b y1 σ).bind fun q2 => if (wr q2) = 0 then (some (.inl (z3, σ))) else ((fX8_makeSheet b y1 σ).bind fun q5 => pm_g (0 ≤ (wr y1) ∧ (wr y1) < 3) (if (wr (q5 (b + 25) (Int.toNat (wr y1)))) = 60 then ((fX8_endPost b y1 y2 q5).bind fun q9 => some (.inr ((z3 + 1), q9))) else (some (.inr ((z3 + 1), q5))))))
set_option maxHeartbeats 4000000 in
set_option maxRecDepth 100000 in
theorem tbX8_makeSheets_2 {lay0 lay' : List pm_S} {r : Option pm_V} {σ' : pm_M} {b : Nat} (hb : b = 15 ∨ b = 48) (y1 : Int) (y2 : Int) : ∀ (a : Int × pm_M) (e : (Int × pm_M) ⊕ (Int × pm_M)), (fun a => bdX8_makeSheets_2 b y1 y2 a.1 a.2) a = some e → (∀ a, e = .inr a → (fun a => pm_J mX8_makeSheets 3 109 lay0 r lay' σ' 2 [some (pv_r (b + 22)), some (pv_i y1), some (pv_i y2), some (pv_i a.1)] [] LAYC a.2) a) → (∀ a, e = .inl a → (fun a => pm_J mX8_makeSheets 3 109 lay0 r lay' σ' 44 [none, none, none, none] [] LAYC a.2) a) → (fun a => pm_J mX8_makeSheets 3 109 lay0 r lay' σ' 2 [some (pv_r (b + 22)), some (pv_i y1), some (pv_i y2), some (pv_i a.1)] [] LAYC a.2) a := by
  intro a e h hc hx
  obtain ⟨z3, σ⟩ := a
  have h : bdX8_makeSheets_2 b y1 y2 z3 σ = some e := h
  unfold bdX8_makeSheets_2 at h
  show pm_J mX8_makeSheets 3 109 lay0 r lay' σ' 2 [some (pv_r (b + 22)), some (pv_i y1), some (pv_i y2), some (pv_i z3)] [] LAYC σ
  refine pr_iload_n dX8_makeSheets_2 rfl ?_
  refine pr_bipush dX8_makeSheets_3 (by decide) ?_
  refine pr_icmp_ge (tgt := 44) dX8_makeSheets_5 rfl (wr_eq (by decide) (by decide)) (by decide) (fun c_1 => ?_) (fun c_1 => ?_)
  · have h := pm_pos c_1 h
    refine pr_weak (L2 := [none, none, none, none]) ⟨Or.inl rfl, Or.inl rfl, Or.inl rfl, Or.inl rfl, trivial⟩ ?_
    exact hx (z3, σ) (Option.some.inj h).symm
  · have h := pm_ng c_1 h
    refine pr_aload_n dX8_makeSheets_8 rfl ?_
    refine pr_iload_n dX8_makeSheets_9 rfl ?_
    obtain ⟨q2, e3, h⟩ := pm_bs h
    refine pr_callV (As := [pv_i y1]) (S := []) (t := (b + 22)) dX8_makeSheets_10 mk_X8_52 (lw_22 hb) (ci := 8) (q := (RX8, TX8, 9)) rfl rfl rfl rfl (Nat.le_of_ble_eq_true rfl) (by decide) (by decide) (Or.inl rfl) (tmX8_canMake hb e3) ?_
    refine pr_if_eq (tgt := 44) dX8_makeSheets_13 rfl (by decide) (fun c_4 => ?_) (fun c_4 => ?_)
    · have h := pm_pos c_4 h
      refine pr_weak (L2 := [none, none, none, none]) ⟨Or.inl rfl, Or.inl rfl, Or.inl rfl, Or.inl rfl, trivial⟩ ?_
      exact hx (z3, σ) (Option.some.inj h).symm
    · have h := pm_ng c_4 h
      refine pr_aload_n dX8_makeSheets_16 rfl ?_
      refine pr_iload_n dX8_makeSheets_17 rfl ?_
      obtain ⟨q5, e6, h⟩ := pm_bs h
      refine pr_callV (As := [pv_i y1]) (S := []) (t := (b + 22)) dX8_makeSheets_18 mk_X8_70 (lw_22 hb) (ci := 8) (q := (RX8, TX8, 9)) rfl rfl rfl rfl (Nat.le_of_ble_eq_true rfl) (by decide) (by decide) (Or.inl rfl) (tmX8_makeSheet hb e6) ?_
      refine pr_aload_n dX8_makeSheets_21 rfl ?_
      refine pr_getR dX8_makeSheets_22 lk_X8_18 (lw_22 hb) rfl ?_
      refine pr_iload_n dX8_makeSheets_25 rfl ?_
      obtain ⟨g_7, h⟩ := pm_gs h
      refine pr_iald dX8_makeSheets_26 (lw_25 hb) rfl g_7 ?_
      refine pr_bipush dX8_makeSheets_27 (by decide) ?_
      refine pr_icmp_ne (tgt := 38) dX8_makeSheets_29 rfl (wr_eq (by decide) (by decide)) (by decide) (fun c_8 => ?_) (fun c_8 => ?_)
      · have h := pm_ng c_8 h
        refine pr_iinc dX8_makeSheets_38 rfl (by decide) rfl ?_
        refine pr_goto (tgt := 2) dX8_makeSheets_41 (by decide) ?_
        refine pr_weak (L2 := [some (pv_r (b + 22)), some (pv_i y1), some (pv_i y2), some (pv_i (z3 + 1))]) ⟨Or.inr rfl, Or.inr rfl, Or.inr rfl, Or.inr rfl, trivial⟩ ?_
        exact hc ((z3 + 1), q5) (Option.some.inj h).symm
      · have h := pm_pos c_8 h
        refine pr_aload_n dX8_makeSheets_32 rfl ?_
        refine pr_iload_n dX8_makeSheets_33 rfl ?_
        refine pr_iload_n dX8_makeSheets_34 rfl ?_
        obtain ⟨q9, e10, h⟩ := pm_bs h
        refine pr_callV (As := [pv_i y1, pv_i y2]) (S := []) (t := (b + 22)) dX8_makeSheets_35 mk_X8_74 (lw_22 hb) (ci := 8) (q := (RX8, TX8, 9)) rfl rfl rfl rfl (Nat.le_of_ble_eq_true rfl) (by decide) (by decide) (Or.inl rfl) (tmX8_endPost hb e10) ?_
        refine pr_iinc dX8_makeSheets_38 rfl (by decide) rfl ?_
        refine pr_goto (tgt := 2) dX8_makeSheets_41 (by decide) ?_
        refine pr_weak (L2 := [some (pv_r (b + 22)), some (pv_i y1), some (pv_i y2), some (pv_i (z3 + 1))]) ⟨Or.inr rfl, Or.inr rfl, Or.inr rfl, Or.inr rfl, trivial⟩ ?_
        exact hc ((z3 + 1), q9) (Option.some.inj h).symm
def fX8_makeSheets (b : Nat) (x1 : Int) (x2 : Int) (σ : pm_M) : Option (pm_M) :=
  (pm_it (fun a => bdX8_makeSheets_2 b x1 x2 a.1 a.2) pm_fuel (0, σ)).bind fun v11 => some v11.2
set_option maxHeartbeats 4000000 in
set_option maxRecDepth 100000 in
theorem tmX8_makeSheets {b : Nat} (hb : b = 15 ∨ b = 48) {x1 : Int} {x2 : Int} {σ : pm_M} {ρ : pm_M} (h : fX8_makeSheets b x1 x2 σ = some ρ) : pm_C mX8_makeSheets 3 109 [pv_r (b + 22), pv_i x1, pv_i x2] LAYC σ none LAYC ρ := by
  refine pm_C.of (by decide) rfl (Nat.le_of_ble_eq_true rfl) ?_
  show pm_J mX8_makeSheets 3 109 LAYC none LAYC ρ 0 [some (pv_r (b + 22)), some (pv_i x1), some (pv_i x2), none] [] LAYC σ
  unfold fX8_makeSheets at h
  refine pr_iconst dX8_makeSheets_0 ?_
  refine pr_istore_n dX8_makeSheets_1 (by decide) rfl ?_
  obtain ⟨v11, e12, h⟩ := pm_bs h
  refine pr_weak (L2 := [some (pv_r (b + 22)), some (pv_i x1), some (pv_i x2), some (pv_i 0)]) ⟨Or.inr rfl, Or.inr rfl, Or.inr rfl, Or.inr rfl, trivial⟩ ?_
  refine pm_it_J (α := Int × pm_M) (β := Int × pm_M) (f := fun a => bdX8_makeSheets_2 b x1 x2 a.1 a.2) (P := fun a => pm_J mX8_makeSheets 3 109 LAYC none LAYC ρ 2 [some (pv_r (b + 22)), some (pv_i x1), some (pv_i x2), some (pv_i a.1)] [] LAYC a.2) (Rx := fun a => pm_J mX8_makeSheets 3 109 LAYC none LAYC ρ 44 [none, none, none, none] [] LAYC a.2) (tbX8_makeSheets_2 hb x1 x2) pm_fuel (0, σ) v11 e12 ?_
  show pm_J mX8_makeSheets 3 109 LAYC none LAYC ρ 44 [none, none, none, none] [] LAYC v11.2
  have h := Option.some.inj h
  subst h
  exact pr_vret dX8_makeSheets_44 rfl
def jnX8_work_53l5 (b : Nat) (y2 : Int) (w3 : Int) (w4 : Int) (σ : pm_M) : Option ((Int × Int × pm_M) ⊕ (Int × Int × pm_M)) :=
  pm_g (0 ≤ (wr w4) ∧ (wr w4) < 3) (pm_g (0 ≤ (wr w4) ∧ (wr w4) < 3) (some (.inr (w3, (w4 + 1), (pm_up σ (b + 26) (Int.toNat (wr w4)) ((σ (b + 26) (Int.toNat (wr w4))) + 1))))))
set_option maxHeartbeats 4000000 in
set_option maxRecDepth 100000 in
theorem tjX8_work_53l5 {lay0 lay' : List pm_S} {r : Option pm_V} {σ' : pm_M} {b : Nat} (hb : b = 15 ∨ b = 48) {y2 : Int} {w3 : Int} {w4 : Int} {σ : pm_M} {e : (Int × Int × pm_M) ⊕ (Int × Int × pm_M)} (h : jnX8_work_53l5 b y2 w3 w4 σ = some e) (hc : ∀ a, e = .inr a → (fun a => pm_J mX8_work 4 132 lay0 r lay' σ' 5 [some (pv_r (b + 22)), none, some (pv_i y2), some (pv_i a.1), some (pv_i a.2.1)] [] LAYC a.2.2) a) (hx : ∀ a, e = .inl a → (fun a => pm_J mX8_work 4 132 lay0 r lay' σ' 70 [none, none, none, none, none] [] LAYC a.2.2) a) : pm_J mX8_work 4 132 lay0 r lay' σ' 53 [some (pv_r (b + 22)), none, some (pv_i y2), some (pv_i w3), some (pv_i w4)] [] LAYC σ := by
  unfold jnX8_work_53l5 at h
  refine pr_aload_n dX8_work_53 rfl ?_
  refine pr_getR dX8_work_54 lk_X8_21 (lw_22 hb) rfl ?_
  refine pr_iload dX8_work_57 rfl ?_
  refine pr_dup2 dX8_work_59 rfl rfl ?_
  obtain ⟨g_5, h⟩ := pm_gs h
  refine pr_iald dX8_work_60 (lw_26 hb) rfl g_5 ?_
  refine pr_iconst dX8_work_61 ?_
  refine pr_iadd dX8_work_62 ?_
  obtain ⟨g_6, h⟩ := pm_gs h
  refine pr_iast dX8_work_63 (lw_26 hb) rfl g_6 ?_
  refine pr_iinc dX8_work_64 rfl (by decide) rfl ?_
  refine pr_goto (tgt := 5) dX8_work_67 (by decide) ?_
  refine pr_weak (L2 := [some (pv_r (b + 22)), none, some (pv_i y2), some (pv_i w3), some (pv_i (w4 + 1))]) ⟨Or.inr rfl, Or.inl rfl, Or.inr rfl, Or.inr rfl, Or.inr rfl, trivial⟩ ?_
  exact hc (w3, (w4 + 1), (pm_up σ (b + 26) (Int.toNat (wr w4)) ((σ (b + 26) (Int.toNat (wr w4))) + 1))) (Option.some.inj h).symm
def bdX8_work_5 (b : Nat) (y2 : Int) (z3 : Int) (z4 : Int) (σ : pm_M) : Option ((Int × Int × pm_M) ⊕ (Int × Int × pm_M)) :=
  if 3 ≤ (wr z4) then (some (.inl (z3, z4, σ))) else (pm_g (0 ≤ (wr z4) ∧ (wr z4) < 3) (if (wr (σ (b + 23) (Int.toNat (wr z4)))) = (-9) then (some (.inr (z3, (z4 + 1), σ))) else (if (wr z3) < 2 then (jnX8_work_53l5 b y2 z3 z4 σ) else ((fX8_canMake b z4 σ).bind fun q7 => if (wr q7) = 0 then (jnX8_work_53l5 b y2 z3 z4 σ) else ((fX8_makeSheets b z4 y2 σ).bind fun q10 => some (.inr ((z3 + (-2)), (z4 + 1), q10)))))))
set_option maxHeartbeats 4000000 in
set_option maxRecDepth 100000 in
theorem tbX8_work_5 {lay0 lay' : List pm_S} {r : Option pm_V} {σ' : pm_M} {b : Nat} (hb : b = 15 ∨ b = 48) (y2 : Int) : ∀ (a : Int × Int × pm_M) (e : (Int × Int × pm_M) ⊕ (Int × Int × pm_M)), (fun a => bdX8_work_5 b y2 a.1 a.2.1 a.2.2) a = some e → (∀ a, e = .inr a → (fun a => pm_J mX8_work 4 132 lay0 r lay' σ' 5 [some (pv_r (b + 22)), none, some (pv_i y2), some (pv_i a.1), some (pv_i a.2.1)] [] LAYC a.2.2) a) → (∀ a, e = .inl a → (fun a => pm_J mX8_work 4 132 lay0 r lay' σ' 70 [none, none, none, none, none] [] LAYC a.2.2) a) → (fun a => pm_J mX8_work 4 132 lay0 r lay' σ' 5 [some (pv_r (b + 22)), none, some (pv_i y2), some (pv_i a.1), some (pv_i a.2.1)] [] LAYC a.2.2) a := by
  intro a e h hc hx
  obtain ⟨z3, z4, σ⟩ := a
  have h : bdX8_work_5 b y2 z3 z4 σ = some e := h
  unfold bdX8_work_5 at h
  show pm_J mX8_work 4 132 lay0 r lay' σ' 5 [some (pv_r (b + 22)), none, some (pv_i y2), some (pv_i z3), some (pv_i z4)] [] LAYC σ
  refine pr_iload dX8_work_5 rfl ?_
  refine pr_iconst dX8_work_7 ?_
  refine pr_icmp_ge (tgt := 70) dX8_work_8 rfl (wr_eq (by decide) (by decide)) (by decide) (fun c_1 => ?_) (fun c_1 => ?_)
  · have h := pm_pos c_1 h
    refine pr_weak (L2 := [none, none, none, none, none]) ⟨Or.inl rfl, Or.inl rfl, Or.inl rfl, Or.inl rfl, Or.inl rfl, trivial⟩ ?_
    exact hx (z3, z4, σ) (Option.some.inj h).symm
  · have h := pm_ng c_1 h
    refine pr_aload_n dX8_work_11 rfl ?_
    refine pr_getR dX8_work_12 lk_X8_9 (lw_22 hb) rfl ?_
    refine pr_iload dX8_work_15 rfl ?_
    obtain ⟨g_2, h⟩ := pm_gs h
    refine pr_iald dX8_work_17 (lw_23 hb) rfl g_2 ?_
    refine pr_bipush dX8_work_18 (by decide) ?_
    refine pr_icmp_ne (tgt := 26) dX8_work_20 rfl (wr_eq (by decide) (by decide)) (by decide) (fun c_3 => ?_) (fun c_3 => ?_)
    · have h := pm_ng c_3 h
      refine pr_iload_n dX8_work_26 rfl ?_
      refine pr_iconst dX8_work_27 ?_
      refine pr_icmp_lt (tgt := 53) dX8_work_28 rfl (wr_eq (by decide) (by decide)) (by decide) (fun c_4 => ?_) (fun c_4 => ?_)
      · have h := pm_pos c_4 h
        refine pr_weak (L2 := [some (pv_r (b + 22)), none, some (pv_i y2), some (pv_i z3), some (pv_i z4)]) ⟨Or.inr rfl, Or.inl rfl, Or.inr rfl, Or.inr rfl, Or.inr rfl, trivial⟩ ?_
        exact tjX8_work_53l5 hb h hc hx
      · have h := pm_ng c_4 h
        refine pr_aload_n dX8_work_31 rfl ?_
        refine pr_iload dX8_work_32 rfl ?_
        obtain ⟨q7, e8, h⟩ := pm_bs h
        refine pr_callV (As := [pv_i z4]) (S := []) (t := (b + 22)) dX8_work_34 mk_X8_52 (lw_22 hb) (ci := 8) (q := (RX8, TX8, 9)) rfl rfl rfl rfl (Nat.le_of_ble_eq_true rfl) (by decide) (by decide) (Or.inl rfl) (tmX8_canMake hb e8) ?_
        refine pr_if_eq (tgt := 53) dX8_work_37 rfl (by decide) (fun c_9 => ?_) (fun c_9 => ?_)
        · have h := pm_pos c_9 h
          refine pr_weak (L2 := [some (pv_r (b + 22)), none, some (pv_i y2), some (pv_i z3), some (pv_i z4)]) ⟨Or.inr rfl, Or.inl rfl, Or.inr rfl, Or.inr rfl, Or.inr rfl, trivial⟩ ?_
          exact tjX8_work_53l5 hb h hc hx
        · have h := pm_ng c_9 h
          refine pr_iinc dX8_work_40 rfl (by decide) rfl ?_
          refine pr_aload_n dX8_work_43 rfl ?_
          refine pr_iload dX8_work_44 rfl ?_
          refine pr_iload_n dX8_work_46 rfl ?_
          obtain ⟨q10, e11, h⟩ := pm_bs h
          refine pr_callV (As := [pv_i z4, pv_i y2]) (S := []) (t := (b + 22)) dX8_work_47 mk_X8_56 (lw_22 hb) (ci := 8) (q := (RX8, TX8, 9)) rfl rfl rfl rfl (Nat.le_of_ble_eq_true rfl) (by decide) (by decide) (Or.inl rfl) (tmX8_makeSheets hb e11) ?_
          refine pr_goto (tgt := 64) dX8_work_50 (by decide) ?_
          refine pr_iinc dX8_work_64 rfl (by decide) rfl ?_
          refine pr_goto (tgt := 5) dX8_work_67 (by decide) ?_
          refine pr_weak (L2 := [some (pv_r (b + 22)), none, some (pv_i y2), some (pv_i (z3 + (-2))), some (pv_i (z4 + 1))]) ⟨Or.inr rfl, Or.inl rfl, Or.inr rfl, Or.inr rfl, Or.inr rfl, trivial⟩ ?_
          exact hc ((z3 + (-2)), (z4 + 1), q10) (Option.some.inj h).symm
    · have h := pm_pos c_3 h
      refine pr_goto (tgt := 64) dX8_work_23 (by decide) ?_
      refine pr_iinc dX8_work_64 rfl (by decide) rfl ?_
      refine pr_goto (tgt := 5) dX8_work_67 (by decide) ?_
      refine pr_weak (L2 := [some (pv_r (b + 22)), none, some (pv_i y2), some (pv_i z3), some (pv_i (z4 + 1))]) ⟨Or.inr rfl, Or.inl rfl, Or.inr rfl, Or.inr rfl, Or.inr rfl, trivial⟩ ?_
      exact hc (z3, (z4 + 1), σ) (Option.some.inj h).symm
def fX8_work (b : Nat) (x1 : Int) (x2 : Int) (σ : pm_M) : Option (pm_M) :=
  (pm_it (fun a => bdX8_work_5 b x2 a.1 a.2.1 a.2.2) pm_fuel (x1, 0, σ)).bind fun v12 => some v12.2.2
set_option maxHeartbeats 4000000 in
set_option maxRecDepth 100000 in
theorem tmX8_work {b : Nat} (hb : b = 15 ∨ b = 48) {x1 : Int} {x2 : Int} {σ : pm_M} {ρ : pm_M} (h : fX8_work b x1 x2 σ = some ρ) : pm_C mX8_work 4 132 [pv_r (b + 22), pv_i x1, pv_i x2] LAYC σ none LAYC ρ := by
  refine pm_C.of (by decide) rfl (Nat.le_of_ble_eq_true rfl) ?_
  show pm_J mX8_work 4 132 LAYC none LAYC ρ 0 [some (pv_r (b + 22)), some (pv_i x1), some (pv_i x2), none, none] [] LAYC σ
  unfold fX8_work at h
  refine pr_iload_n dX8_work_0 rfl ?_
  refine pr_istore_n dX8_work_1 (by decide) rfl ?_
  refine pr_iconst dX8_work_2 ?_
  refine pr_istore dX8_work_3 (by decide) rfl ?_
  obtain ⟨v12, e13, h⟩ := pm_bs h
  refine pr_weak (L2 := [some (pv_r (b + 22)), none, some (pv_i x2), some (pv_i x1), some (pv_i 0)]) ⟨Or.inr rfl, Or.inl rfl, Or.inr rfl, Or.inr rfl, Or.inr rfl, trivial⟩ ?_
  refine pm_it_J (α := Int × Int × pm_M) (β := Int × Int × pm_M) (f := fun a => bdX8_work_5 b x2 a.1 a.2.1 a.2.2) (P := fun a => pm_J mX8_work 4 132 LAYC none LAYC ρ 5 [some (pv_r (b + 22)), none, some (pv_i x2), some (pv_i a.1), some (pv_i a.2.1)] [] LAYC a.2.2) (Rx := fun a => pm_J mX8_work 4 132 LAYC none LAYC ρ 70 [none, none, none, none, none] [] LAYC a.2.2) (tbX8_work_5 hb x2) pm_fuel (x1, 0, σ) v12 e13 ?_
  show pm_J mX8_work 4 132 LAYC none LAYC ρ 70 [none, none, none, none, none] [] LAYC v12.2.2
  have h := Option.some.inj h
  subst h
  exact pr_vret dX8_work_70 rfl
