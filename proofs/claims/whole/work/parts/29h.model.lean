def fX12_best (x1 : Int) (σ : pm_M) : Option (Int × pm_M) :=
  (fX12_bests x1 σ).bind fun q1 => if (wr q1.1) = 0 then (some ((q1.2 0 34), q1.2)) else ((fX12_refuse q1.1 q1.2).bind fun q4 => some (q4.1, q4.2))
set_option maxHeartbeats 4000000 in
set_option maxRecDepth 100000 in
theorem tmX12_best {x1 : Int} {σ : pm_M} {ρ : Int × pm_M} (h : fX12_best x1 σ = some ρ) : pm_C mX12_best 2 55 [pv_r 0, pv_i x1] LAYM σ (some (pv_i ρ.1)) LAYM ρ.2 := by
  refine pm_C.of (by decide) rfl (Nat.le_of_ble_eq_true rfl) ?_
  show pm_J mX12_best 2 55 LAYM (some (pv_i ρ.1)) LAYM ρ.2 0 [some (pv_r 0), some (pv_i x1), none] [] LAYM σ
  unfold fX12_best at h
  refine pr_aload_n dX12_best_0 rfl ?_
  refine pr_iload_n dX12_best_1 rfl ?_
  obtain ⟨q1, e2, h⟩ := pm_bs h
  refine pr_callV (As := [pv_i x1]) (S := []) (t := 0) dX12_best_2 mk_X12_173 lm_0 (ci := 12) (q := (RX12, TX12, 36)) rfl rfl rfl rfl (Nat.le_of_ble_eq_true rfl) (by decide) (by decide) (Or.inl rfl) (tmX12_bests e2) ?_
  refine pr_istore_n dX12_best_5 (by decide) rfl ?_
  refine pr_iload_n dX12_best_6 rfl ?_
  refine pr_if_eq (tgt := 18) dX12_best_7 rfl (by decide) (fun c_3 => ?_) (fun c_3 => ?_)
  · have h := pm_pos c_3 h
    refine pr_aload_n dX12_best_18 rfl ?_
    refine pr_getI dX12_best_19 lk_X12_165 lm_0 rfl ?_
    have h := Option.some.inj h
    subst h
    exact pr_iret dX12_best_22 rfl
  · have h := pm_ng c_3 h
    refine pr_aload_n dX12_best_10 rfl ?_
    refine pr_iload_n dX12_best_11 rfl ?_
    obtain ⟨q4, e5, h⟩ := pm_bs h
    refine pr_callV (As := [pv_i q1.1]) (S := []) (t := 0) dX12_best_12 mk_X12_103 lm_0 (ci := 12) (q := (RX12, TX12, 36)) rfl rfl rfl rfl (Nat.le_of_ble_eq_true rfl) (by decide) (by decide) (Or.inl rfl) (tmX12_refuse e5) ?_
    refine pr_goto (tgt := 22) dX12_best_15 (by decide) ?_
    have h := Option.some.inj h
    subst h
    exact pr_iret dX12_best_22 rfl
def fX12_bestWorth (x1 : Int) (σ : pm_M) : Option (Int × pm_M) :=
  (fX12_bests x1 σ).bind fun q1 => if (wr q1.1) = 0 then (some ((q1.2 0 35), q1.2)) else ((fX12_refuse q1.1 q1.2).bind fun q4 => some (q4.1, q4.2))
set_option maxHeartbeats 4000000 in
set_option maxRecDepth 100000 in
theorem tmX12_bestWorth {x1 : Int} {σ : pm_M} {ρ : Int × pm_M} (h : fX12_bestWorth x1 σ = some ρ) : pm_C mX12_bestWorth 2 55 [pv_r 0, pv_i x1] LAYM σ (some (pv_i ρ.1)) LAYM ρ.2 := by
  refine pm_C.of (by decide) rfl (Nat.le_of_ble_eq_true rfl) ?_
  show pm_J mX12_bestWorth 2 55 LAYM (some (pv_i ρ.1)) LAYM ρ.2 0 [some (pv_r 0), some (pv_i x1), none] [] LAYM σ
  unfold fX12_bestWorth at h
  refine pr_aload_n dX12_bestWorth_0 rfl ?_
  refine pr_iload_n dX12_bestWorth_1 rfl ?_
  obtain ⟨q1, e2, h⟩ := pm_bs h
  refine pr_callV (As := [pv_i x1]) (S := []) (t := 0) dX12_bestWorth_2 mk_X12_173 lm_0 (ci := 12) (q := (RX12, TX12, 36)) rfl rfl rfl rfl (Nat.le_of_ble_eq_true rfl) (by decide) (by decide) (Or.inl rfl) (tmX12_bests e2) ?_
  refine pr_istore_n dX12_bestWorth_5 (by decide) rfl ?_
  refine pr_iload_n dX12_bestWorth_6 rfl ?_
  refine pr_if_eq (tgt := 18) dX12_bestWorth_7 rfl (by decide) (fun c_3 => ?_) (fun c_3 => ?_)
  · have h := pm_pos c_3 h
    refine pr_aload_n dX12_bestWorth_18 rfl ?_
    refine pr_getI dX12_bestWorth_19 lk_X12_168 lm_0 rfl ?_
    have h := Option.some.inj h
    subst h
    exact pr_iret dX12_bestWorth_22 rfl
  · have h := pm_ng c_3 h
    refine pr_aload_n dX12_bestWorth_10 rfl ?_
    refine pr_iload_n dX12_bestWorth_11 rfl ?_
    obtain ⟨q4, e5, h⟩ := pm_bs h
    refine pr_callV (As := [pv_i q1.1]) (S := []) (t := 0) dX12_bestWorth_12 mk_X12_103 lm_0 (ci := 12) (q := (RX12, TX12, 36)) rfl rfl rfl rfl (Nat.le_of_ble_eq_true rfl) (by decide) (by decide) (Or.inl rfl) (tmX12_refuse e5) ?_
    refine pr_goto (tgt := 22) dX12_bestWorth_15 (by decide) ?_
    have h := Option.some.inj h
    subst h
    exact pr_iret dX12_bestWorth_22 rfl
def fX12_wanders (x1 : Int) (σ : pm_M) : Option (pm_M) :=
  pm_g (0 ≤ (wr x1) ∧ (wr x1) < 8) (pm_g (0 ≤ (wr x1) ∧ (wr x1) < 8) (if (wr (Int.tmod (wr (σ 13 (Int.toNat (wr x1)))) 50)) = 0 then (pm_g (0 ≤ (wr ((6 * x1) + (Int.tmod (wr ((Int.tdiv (wr (σ 13 (Int.toNat (wr x1)))) 50) + x1)) 6))) ∧ (wr ((6 * x1) + (Int.tmod (wr ((Int.tdiv (wr (σ 13 (Int.toNat (wr x1)))) 50) + x1)) 6))) < 48) (if (wr (Int.tmod (wr (Int.tdiv (wr (Int.tdiv (wr (σ 13 (Int.toNat (wr x1)))) 50)) 6)) 2)) = 0 then (pm_g (0 ≤ (wr ((6 * x1) + (Int.tmod (wr ((Int.tdiv (wr (σ 13 (Int.toNat (wr x1)))) 50) + x1)) 6))) ∧ (wr ((6 * x1) + (Int.tmod (wr ((Int.tdiv (wr (σ 13 (Int.toNat (wr x1)))) 50) + x1)) 6))) < 48) (some (pm_up σ 12 (Int.toNat (wr ((6 * x1) + (Int.tmod (wr ((Int.tdiv (wr (σ 13 (Int.toNat (wr x1)))) 50) + x1)) 6)))) (pm_max 0 (pm_min 99 ((σ 12 (Int.toNat (wr ((6 * x1) + (Int.tmod (wr ((Int.tdiv (wr (σ 13 (Int.toNat (wr x1)))) 50) + x1)) 6))))) + 1)))))) else (pm_g (0 ≤ (wr ((6 * x1) + (Int.tmod (wr ((Int.tdiv (wr (σ 13 (Int.toNat (wr x1)))) 50) + x1)) 6))) ∧ (wr ((6 * x1) + (Int.tmod (wr ((Int.tdiv (wr (σ 13 (Int.toNat (wr x1)))) 50) + x1)) 6))) < 48) (some (pm_up σ 12 (Int.toNat (wr ((6 * x1) + (Int.tmod (wr ((Int.tdiv (wr (σ 13 (Int.toNat (wr x1)))) 50) + x1)) 6)))) (pm_max 0 (pm_min 99 ((σ 12 (Int.toNat (wr ((6 * x1) + (Int.tmod (wr ((Int.tdiv (wr (σ 13 (Int.toNat (wr x1)))) 50) + x1)) 6))))) + (-1))))))))) else (some σ)))
set_option maxHeartbeats 4000000 in
set_option maxRecDepth 100000 in
theorem tmX12_wanders {x1 : Int} {σ : pm_M} {ρ : pm_M} (h : fX12_wanders x1 σ = some ρ) : pm_C mX12_wanders 1 21 [pv_r 0, pv_i x1] LAYM σ none LAYM ρ := by
  refine pm_C.of (by decide) rfl (Nat.le_of_ble_eq_true rfl) ?_
  show pm_J mX12_wanders 1 21 LAYM none LAYM ρ 0 [some (pv_r 0), some (pv_i x1), none, none] [] LAYM σ
  unfold fX12_wanders at h
  refine pr_aload_n dX12_wanders_0 rfl ?_
  refine pr_getR dX12_wanders_1 lk_X12_46 lm_0 rfl ?_
  refine pr_iload_n dX12_wanders_4 rfl ?_
  obtain ⟨g_1, h⟩ := pm_gs h
  refine pr_iald dX12_wanders_5 lm_13 rfl g_1 ?_
  refine pr_bipush dX12_wanders_6 (by decide) ?_
  refine pr_idiv dX12_wanders_8 rfl (wr_eq (by decide) (by decide)) (by decide) ?_
  refine pr_istore_n dX12_wanders_9 (by decide) rfl ?_
  refine pr_aload_n dX12_wanders_10 rfl ?_
  refine pr_getR dX12_wanders_11 lk_X12_46 lm_0 rfl ?_
  refine pr_iload_n dX12_wanders_14 rfl ?_
  obtain ⟨g_2, h⟩ := pm_gs h
  refine pr_iald dX12_wanders_15 lm_13 rfl g_2 ?_
  refine pr_bipush dX12_wanders_16 (by decide) ?_
  refine pr_irem dX12_wanders_18 rfl (wr_eq (by decide) (by decide)) (by decide) ?_
  refine pr_if_eq (tgt := 23) dX12_wanders_19 rfl (by decide) (fun c_3 => ?_) (fun c_3 => ?_)
  · have h := pm_pos c_3 h
    refine pr_bipush dX12_wanders_23 (by decide) ?_
    refine pr_iload_n dX12_wanders_25 rfl ?_
    refine pr_imul dX12_wanders_26 ?_
    refine pr_iload_n dX12_wanders_27 rfl ?_
    refine pr_iload_n dX12_wanders_28 rfl ?_
    refine pr_iadd dX12_wanders_29 ?_
    refine pr_bipush dX12_wanders_30 (by decide) ?_
    refine pr_irem dX12_wanders_32 rfl (wr_eq (by decide) (by decide)) (by decide) ?_
    refine pr_iadd dX12_wanders_33 ?_
    refine pr_istore_n dX12_wanders_34 (by decide) rfl ?_
    refine pr_aload_n dX12_wanders_35 rfl ?_
    refine pr_getR dX12_wanders_36 lk_X12_43 lm_0 rfl ?_
    refine pr_iload_n dX12_wanders_39 rfl ?_
    refine pr_iconst dX12_wanders_40 ?_
    refine pr_bipush dX12_wanders_41 (by decide) ?_
    refine pr_aload_n dX12_wanders_43 rfl ?_
    refine pr_getR dX12_wanders_44 lk_X12_43 lm_0 rfl ?_
    refine pr_iload_n dX12_wanders_47 rfl ?_
    obtain ⟨g_4, h⟩ := pm_gs h
    refine pr_iald dX12_wanders_48 lm_12 rfl g_4 ?_
    refine pr_iload_n dX12_wanders_49 rfl ?_
    refine pr_bipush dX12_wanders_50 (by decide) ?_
    refine pr_idiv dX12_wanders_52 rfl (wr_eq (by decide) (by decide)) (by decide) ?_
    refine pr_iconst dX12_wanders_53 ?_
    refine pr_irem dX12_wanders_54 rfl (wr_eq (by decide) (by decide)) (by decide) ?_
    refine pr_if_ne (tgt := 62) dX12_wanders_55 rfl (by decide) (fun c_5 => ?_) (fun c_5 => ?_)
    · have h := pm_ng c_5 h
      refine pr_iconst dX12_wanders_62 ?_
      refine pr_iadd dX12_wanders_63 ?_
      refine pr_mmin dX12_wanders_64 mm_X12_124 (by decide) (Nat.le_of_ble_eq_true rfl) ?_
      refine pr_mmax dX12_wanders_67 mm_X12_141 (by decide) (Nat.le_of_ble_eq_true rfl) ?_
      obtain ⟨g_6, h⟩ := pm_gs h
      refine pr_iast dX12_wanders_70 lm_12 rfl g_6 ?_
      have h := Option.some.inj h
      subst h
      exact pr_vret dX12_wanders_71 rfl
    · have h := pm_pos c_5 h
      refine pr_iconst dX12_wanders_58 ?_
      refine pr_goto (tgt := 63) dX12_wanders_59 (by decide) ?_
      refine pr_iadd dX12_wanders_63 ?_
      refine pr_mmin dX12_wanders_64 mm_X12_124 (by decide) (Nat.le_of_ble_eq_true rfl) ?_
      refine pr_mmax dX12_wanders_67 mm_X12_141 (by decide) (Nat.le_of_ble_eq_true rfl) ?_
      obtain ⟨g_7, h⟩ := pm_gs h
      refine pr_iast dX12_wanders_70 lm_12 rfl g_7 ?_
      have h := Option.some.inj h
      subst h
      exact pr_vret dX12_wanders_71 rfl
  · have h := pm_ng c_3 h
    have h := Option.some.inj h
    subst h
    exact pr_vret dX12_wanders_22 rfl
def bdX12_sheet_275 (y1 : Int) (y5 : Int) (z6 : Int) (σ : pm_M) : Option ((Int × pm_M) ⊕ (Int × pm_M)) :=
  if 360 ≤ (wr z6) then (some (.inl (z6, σ))) else (if (wr (σ 0 32)) = 0 then (pm_g (0 ≤ (wr ((360 * y1) + z6)) ∧ (wr ((360 * y1) + z6)) < 1080) (pm_g (0 ≤ (wr ((360 * y5) + z6)) ∧ (wr ((360 * y5) + z6)) < 28800) (some (.inr ((z6 + 1), (pm_up σ 22 (Int.toNat (wr ((360 * y5) + z6))) (σ 23 (Int.toNat (wr ((360 * y1) + z6)))))))))) else (some (.inl (z6, σ))))
set_option maxHeartbeats 4000000 in
set_option maxRecDepth 100000 in
theorem tbX12_sheet_275 {lay0 lay' : List pm_S} {r : Option pm_V} {σ' : pm_M} (y1 : Int) (y5 : Int) : ∀ (a : Int × pm_M) (e : (Int × pm_M) ⊕ (Int × pm_M)), (fun a => bdX12_sheet_275 y1 y5 a.1 a.2) a = some e → (∀ a, e = .inr a → (fun a => pm_J mX12_sheet 2 44 lay0 r lay' σ' 275 [some (pv_r 0), some (pv_i y1), none, none, none, some (pv_i y5), some (pv_i a.1)] [] LAYM a.2) a) → (∀ a, e = .inl a → (fun a => pm_J mX12_sheet 2 44 lay0 r lay' σ' 323 [none, none, none, none, none, none, none] [] LAYM a.2) a) → (fun a => pm_J mX12_sheet 2 44 lay0 r lay' σ' 275 [some (pv_r 0), some (pv_i y1), none, none, none, some (pv_i y5), some (pv_i a.1)] [] LAYM a.2) a := by
  intro a e h hc hx
  obtain ⟨z6, σ⟩ := a
  have h : bdX12_sheet_275 y1 y5 z6 σ = some e := h
  unfold bdX12_sheet_275 at h
  show pm_J mX12_sheet 2 44 lay0 r lay' σ' 275 [some (pv_r 0), some (pv_i y1), none, none, none, some (pv_i y5), some (pv_i z6)] [] LAYM σ
  refine pr_iload dX12_sheet_275 rfl ?_
  refine pr_sipush dX12_sheet_277 (by decide) ?_
  refine pr_icmp_ge (tgt := 323) dX12_sheet_280 rfl (wr_eq (by decide) (by decide)) (by decide) (fun c_29 => ?_) (fun c_29 => ?_)
  · have h := pm_pos c_29 h
    refine pr_weak (L2 := [none, none, none, none, none, none, none]) ⟨Or.inl rfl, Or.inl rfl, Or.inl rfl, Or.inl rfl, Or.inl rfl, Or.inl rfl, Or.inl rfl, trivial⟩ ?_
    exact hx (z6, σ) (Option.some.inj h).symm
  · have h := pm_ng c_29 h
    refine pr_aload_n dX12_sheet_283 rfl ?_
    refine pr_getI dX12_sheet_284 lk_X12_176 lm_0 rfl ?_
    refine pr_if_ne (tgt := 323) dX12_sheet_287 rfl (by decide) (fun c_30 => ?_) (fun c_30 => ?_)
    · have h := pm_ng c_30 h
      refine pr_weak (L2 := [none, none, none, none, none, none, none]) ⟨Or.inl rfl, Or.inl rfl, Or.inl rfl, Or.inl rfl, Or.inl rfl, Or.inl rfl, Or.inl rfl, trivial⟩ ?_
      exact hx (z6, σ) (Option.some.inj h).symm
    · have h := pm_pos c_30 h
      refine pr_aload_n dX12_sheet_290 rfl ?_
      refine pr_getR dX12_sheet_291 lk_X12_77 lm_0 rfl ?_
      refine pr_sipush dX12_sheet_294 (by decide) ?_
      refine pr_iload dX12_sheet_297 rfl ?_
      refine pr_imul dX12_sheet_299 ?_
      refine pr_iload dX12_sheet_300 rfl ?_
      refine pr_iadd dX12_sheet_302 ?_
      refine pr_aload_n dX12_sheet_303 rfl ?_
      refine pr_getR dX12_sheet_304 lk_X12_80 lm_0 rfl ?_
      refine pr_sipush dX12_sheet_307 (by decide) ?_
      refine pr_iload_n dX12_sheet_310 rfl ?_
      refine pr_imul dX12_sheet_311 ?_
      refine pr_iload dX12_sheet_312 rfl ?_
      refine pr_iadd dX12_sheet_314 ?_
      obtain ⟨g_31, h⟩ := pm_gs h
      refine pr_iald dX12_sheet_315 lm_23 rfl g_31 ?_
      obtain ⟨g_32, h⟩ := pm_gs h
      refine pr_iast dX12_sheet_316 lm_22 rfl g_32 ?_
      refine pr_iinc dX12_sheet_317 rfl (by decide) rfl ?_
      refine pr_goto (tgt := 275) dX12_sheet_320 (by decide) ?_
      refine pr_weak (L2 := [some (pv_r 0), some (pv_i y1), none, none, none, some (pv_i y5), some (pv_i (z6 + 1))]) ⟨Or.inr rfl, Or.inr rfl, Or.inl rfl, Or.inl rfl, Or.inl rfl, Or.inr rfl, Or.inr rfl, trivial⟩ ?_
      exact hc ((z6 + 1), (pm_up σ 22 (Int.toNat (wr ((360 * y5) + z6))) (σ 23 (Int.toNat (wr ((360 * y1) + z6)))))) (Option.some.inj h).symm
def jnX12_sheet_121 (w1 : Int) (w2 : Int) (w3 : Int) (σ : pm_M) : Option (pm_M) :=
  pm_g (0 ≤ (wr (105 + (2 * w1))) ∧ (wr (105 + (2 * w1))) < 755) (pm_g (0 ≤ (wr (105 + (2 * w1))) ∧ (wr (105 + (2 * w1))) < 755) (if 60 ≤ (wr (w3 + 1)) then (pm_g (0 ≤ (wr (105 + (2 * w1))) ∧ (wr (105 + (2 * w1))) < 755) ((fX12_put ((pm_up (pm_up (pm_up σ 25 (Int.toNat 753) ((σ 25 (Int.toNat 753)) + 1)) 25 (Int.toNat (wr (105 + (2 * w1)))) (((pm_up σ 25 (Int.toNat 753) ((σ 25 (Int.toNat 753)) + 1)) 25 (Int.toNat (wr (105 + (2 * w1))))) + 1)) 25 (Int.toNat (wr (105 + (2 * w1)))) 0) 25 (Int.toNat 752)) 0 0 (pm_up (pm_up (pm_up (pm_up σ 25 (Int.toNat 753) ((σ 25 (Int.toNat 753)) + 1)) 25 (Int.toNat (wr (105 + (2 * w1)))) (((pm_up σ 25 (Int.toNat 753) ((σ 25 (Int.toNat 753)) + 1)) 25 (Int.toNat (wr (105 + (2 * w1))))) + 1)) 25 (Int.toNat (wr (105 + (2 * w1)))) 0) 25 (Int.toNat 752) (((pm_up (pm_up (pm_up σ 25 (Int.toNat 753) ((σ 25 (Int.toNat 753)) + 1)) 25 (Int.toNat (wr (105 + (2 * w1)))) (((pm_up σ 25 (Int.toNat 753) ((σ 25 (Int.toNat 753)) + 1)) 25 (Int.toNat (wr (105 + (2 * w1))))) + 1)) 25 (Int.toNat (wr (105 + (2 * w1)))) 0) 25 (Int.toNat 752)) + 1))).bind fun q12 => (fX12_put ((pm_up (pm_up (pm_up σ 25 (Int.toNat 753) ((σ 25 (Int.toNat 753)) + 1)) 25 (Int.toNat (wr (105 + (2 * w1)))) (((pm_up σ 25 (Int.toNat 753) ((σ 25 (Int.toNat 753)) + 1)) 25 (Int.toNat (wr (105 + (2 * w1))))) + 1)) 25 (Int.toNat (wr (105 + (2 * w1)))) 0) 25 (Int.toNat 752)) 1 w2 q12).bind fun q14 => pm_g (0 ≤ (wr w1) ∧ (wr w1) < 3) ((fX12_put ((pm_up (pm_up (pm_up σ 25 (Int.toNat 753) ((σ 25 (Int.toNat 753)) + 1)) 25 (Int.toNat (wr (105 + (2 * w1)))) (((pm_up σ 25 (Int.toNat 753) ((σ 25 (Int.toNat 753)) + 1)) 25 (Int.toNat (wr (105 + (2 * w1))))) + 1)) 25 (Int.toNat (wr (105 + (2 * w1)))) 0) 25 (Int.toNat 752)) 2 (q14 15 (Int.toNat (wr w1))) q14).bind fun q17 => (fX12_put ((pm_up (pm_up (pm_up σ 25 (Int.toNat 753) ((σ 25 (Int.toNat 753)) + 1)) 25 (Int.toNat (wr (105 + (2 * w1)))) (((pm_up σ 25 (Int.toNat 753) ((σ 25 (Int.toNat 753)) + 1)) 25 (Int.toNat (wr (105 + (2 * w1))))) + 1)) 25 (Int.toNat (wr (105 + (2 * w1)))) 0) 25 (Int.toNat 752)) 3 (q17 25 (Int.toNat 751)) q17).bind fun q19 => (fX12_put ((pm_up (pm_up (pm_up σ 25 (Int.toNat 753) ((σ 25 (Int.toNat 753)) + 1)) 25 (Int.toNat (wr (105 + (2 * w1)))) (((pm_up σ 25 (Int.toNat 753) ((σ 25 (Int.toNat 753)) + 1)) 25 (Int.toNat (wr (105 + (2 * w1))))) + 1)) 25 (Int.toNat (wr (105 + (2 * w1)))) 0) 25 (Int.toNat 752)) 4 (-9) q19).bind fun q21 => (fX12_put ((pm_up (pm_up (pm_up σ 25 (Int.toNat 753) ((σ 25 (Int.toNat 753)) + 1)) 25 (Int.toNat (wr (105 + (2 * w1)))) (((pm_up σ 25 (Int.toNat 753) ((σ 25 (Int.toNat 753)) + 1)) 25 (Int.toNat (wr (105 + (2 * w1))))) + 1)) 25 (Int.toNat (wr (105 + (2 * w1)))) 0) 25 (Int.toNat 752)) 5 0 q21).bind fun q23 => (fX12_put ((pm_up (pm_up (pm_up σ 25 (Int.toNat 753) ((σ 25 (Int.toNat 753)) + 1)) 25 (Int.toNat (wr (105 + (2 * w1)))) (((pm_up σ 25 (Int.toNat 753) ((σ 25 (Int.toNat 753)) + 1)) 25 (Int.toNat (wr (105 + (2 * w1))))) + 1)) 25 (Int.toNat (wr (105 + (2 * w1)))) 0) 25 (Int.toNat 752)) 6 (-9) q23).bind fun q25 => (fX12_put ((pm_up (pm_up (pm_up σ 25 (Int.toNat 753) ((σ 25 (Int.toNat 753)) + 1)) 25 (Int.toNat (wr (105 + (2 * w1)))) (((pm_up σ 25 (Int.toNat 753) ((σ 25 (Int.toNat 753)) + 1)) 25 (Int.toNat (wr (105 + (2 * w1))))) + 1)) 25 (Int.toNat (wr (105 + (2 * w1)))) 0) 25 (Int.toNat 752)) 7 (-9) q25).bind fun q27 => (pm_it (fun a => bdX12_sheet_275 w1 ((pm_up (pm_up (pm_up σ 25 (Int.toNat 753) ((σ 25 (Int.toNat 753)) + 1)) 25 (Int.toNat (wr (105 + (2 * w1)))) (((pm_up σ 25 (Int.toNat 753) ((σ 25 (Int.toNat 753)) + 1)) 25 (Int.toNat (wr (105 + (2 * w1))))) + 1)) 25 (Int.toNat (wr (105 + (2 * w1)))) 0) 25 (Int.toNat 752)) a.1 a.2) pm_fuel (0, q27)).bind fun v33 => some v33.2))) else (some (pm_up (pm_up σ 25 (Int.toNat 753) ((σ 25 (Int.toNat 753)) + 1)) 25 (Int.toNat (wr (105 + (2 * w1)))) (((pm_up σ 25 (Int.toNat 753) ((σ 25 (Int.toNat 753)) + 1)) 25 (Int.toNat (wr (105 + (2 * w1))))) + 1)))))
set_option maxHeartbeats 4000000 in
set_option maxRecDepth 100000 in
theorem tjX12_sheet_121 {lay0 : List pm_S} {w1 : Int} {w2 : Int} {w3 : Int} {σ : pm_M} {ρ : pm_M} (h : jnX12_sheet_121 w1 w2 w3 σ = some ρ) : pm_J mX12_sheet 2 44 lay0 none LAYM ρ 121 [some (pv_r 0), some (pv_i w1), some (pv_i w2), some (pv_i w3), none, none, none] [] LAYM σ := by
  unfold jnX12_sheet_121 at h
  refine pr_aload_n dX12_sheet_121 rfl ?_
  refine pr_getR dX12_sheet_122 lk_X12_86 lm_0 rfl ?_
  refine pr_sipush dX12_sheet_125 (by decide) ?_
  refine pr_dup2 dX12_sheet_128 rfl rfl ?_
  refine pr_iald dX12_sheet_129 lm_25 (wr_eq (by decide) (by decide)) ⟨by decide, by decide⟩ ?_
  refine pr_iconst dX12_sheet_130 ?_
  refine pr_iadd dX12_sheet_131 ?_
  refine pr_iast dX12_sheet_132 lm_25 (wr_eq (by decide) (by decide)) ⟨by decide, by decide⟩ ?_
  refine pr_aload_n dX12_sheet_133 rfl ?_
  refine pr_getR dX12_sheet_134 lk_X12_86 lm_0 rfl ?_
  refine pr_bipush dX12_sheet_137 (by decide) ?_
  refine pr_iconst dX12_sheet_139 ?_
  refine pr_iload_n dX12_sheet_140 rfl ?_
  refine pr_imul dX12_sheet_141 ?_
  refine pr_iadd dX12_sheet_142 ?_
  refine pr_dup2 dX12_sheet_143 rfl rfl ?_
  obtain ⟨g_8, h⟩ := pm_gs h
  refine pr_iald dX12_sheet_144 lm_25 rfl g_8 ?_
  refine pr_iconst dX12_sheet_145 ?_
  refine pr_iadd dX12_sheet_146 ?_
  obtain ⟨g_9, h⟩ := pm_gs h
  refine pr_iast dX12_sheet_147 lm_25 rfl g_9 ?_
  refine pr_iload_n dX12_sheet_148 rfl ?_
  refine pr_iconst dX12_sheet_149 ?_
  refine pr_iadd dX12_sheet_150 ?_
  refine pr_bipush dX12_sheet_151 (by decide) ?_
  refine pr_icmp_ge (tgt := 157) dX12_sheet_153 rfl (wr_eq (by decide) (by decide)) (by decide) (fun c_10 => ?_) (fun c_10 => ?_)
  · have h := pm_pos c_10 h
    refine pr_aload_n dX12_sheet_157 rfl ?_
    refine pr_getR dX12_sheet_158 lk_X12_86 lm_0 rfl ?_
    refine pr_bipush dX12_sheet_161 (by decide) ?_
    refine pr_iconst dX12_sheet_163 ?_
    refine pr_iload_n dX12_sheet_164 rfl ?_
    refine pr_imul dX12_sheet_165 ?_
    refine pr_iadd dX12_sheet_166 ?_
    refine pr_iconst dX12_sheet_167 ?_
    obtain ⟨g_11, h⟩ := pm_gs h
    refine pr_iast dX12_sheet_168 lm_25 rfl g_11 ?_
    refine pr_aload_n dX12_sheet_169 rfl ?_
    refine pr_getR dX12_sheet_170 lk_X12_86 lm_0 rfl ?_
    refine pr_sipush dX12_sheet_173 (by decide) ?_
    refine pr_iald dX12_sheet_176 lm_25 (wr_eq (by decide) (by decide)) ⟨by decide, by decide⟩ ?_
    refine pr_istore dX12_sheet_177 (by decide) rfl ?_
    refine pr_aload_n dX12_sheet_179 rfl ?_
    refine pr_getR dX12_sheet_180 lk_X12_86 lm_0 rfl ?_
    refine pr_sipush dX12_sheet_183 (by decide) ?_
    refine pr_dup2 dX12_sheet_186 rfl rfl ?_
    refine pr_iald dX12_sheet_187 lm_25 (wr_eq (by decide) (by decide)) ⟨by decide, by decide⟩ ?_
    refine pr_iconst dX12_sheet_188 ?_
    refine pr_iadd dX12_sheet_189 ?_
    refine pr_iast dX12_sheet_190 lm_25 (wr_eq (by decide) (by decide)) ⟨by decide, by decide⟩ ?_
    refine pr_aload_n dX12_sheet_191 rfl ?_
    refine pr_iload dX12_sheet_192 rfl ?_
    refine pr_iconst dX12_sheet_194 ?_
    refine pr_iconst dX12_sheet_195 ?_
    obtain ⟨q12, e13, h⟩ := pm_bs h
    refine pr_callV (As := [pv_i ((pm_up (pm_up (pm_up σ 25 (Int.toNat 753) ((σ 25 (Int.toNat 753)) + 1)) 25 (Int.toNat (wr (105 + (2 * w1)))) (((pm_up σ 25 (Int.toNat 753) ((σ 25 (Int.toNat 753)) + 1)) 25 (Int.toNat (wr (105 + (2 * w1))))) + 1)) 25 (Int.toNat (wr (105 + (2 * w1)))) 0) 25 (Int.toNat 752)), pv_i 0, pv_i 0]) (S := []) (t := 0) dX12_sheet_196 mk_X12_144 lm_0 (ci := 12) (q := (RX12, TX12, 36)) rfl rfl rfl rfl (Nat.le_of_ble_eq_true rfl) (by decide) (by decide) (Or.inl rfl) (tmX12_put e13) ?_
    refine pr_aload_n dX12_sheet_199 rfl ?_
    refine pr_iload dX12_sheet_200 rfl ?_
    refine pr_iconst dX12_sheet_202 ?_
    refine pr_iload_n dX12_sheet_203 rfl ?_
    obtain ⟨q14, e15, h⟩ := pm_bs h
    refine pr_callV (As := [pv_i ((pm_up (pm_up (pm_up σ 25 (Int.toNat 753) ((σ 25 (Int.toNat 753)) + 1)) 25 (Int.toNat (wr (105 + (2 * w1)))) (((pm_up σ 25 (Int.toNat 753) ((σ 25 (Int.toNat 753)) + 1)) 25 (Int.toNat (wr (105 + (2 * w1))))) + 1)) 25 (Int.toNat (wr (105 + (2 * w1)))) 0) 25 (Int.toNat 752)), pv_i 1, pv_i w2]) (S := []) (t := 0) dX12_sheet_204 mk_X12_144 lm_0 (ci := 12) (q := (RX12, TX12, 36)) rfl rfl rfl rfl (Nat.le_of_ble_eq_true rfl) (by decide) (by decide) (Or.inl rfl) (tmX12_put e15) ?_
    refine pr_aload_n dX12_sheet_207 rfl ?_
    refine pr_iload dX12_sheet_208 rfl ?_
    refine pr_iconst dX12_sheet_210 ?_
    refine pr_aload_n dX12_sheet_211 rfl ?_
    refine pr_getR dX12_sheet_212 lk_X12_52 lm_0 rfl ?_
    refine pr_iload_n dX12_sheet_215 rfl ?_
    obtain ⟨g_16, h⟩ := pm_gs h
    refine pr_iald dX12_sheet_216 lm_15 rfl g_16 ?_
    obtain ⟨q17, e18, h⟩ := pm_bs h
    refine pr_callV (As := [pv_i ((pm_up (pm_up (pm_up σ 25 (Int.toNat 753) ((σ 25 (Int.toNat 753)) + 1)) 25 (Int.toNat (wr (105 + (2 * w1)))) (((pm_up σ 25 (Int.toNat 753) ((σ 25 (Int.toNat 753)) + 1)) 25 (Int.toNat (wr (105 + (2 * w1))))) + 1)) 25 (Int.toNat (wr (105 + (2 * w1)))) 0) 25 (Int.toNat 752)), pv_i 2, pv_i (q14 15 (Int.toNat (wr w1)))]) (S := []) (t := 0) dX12_sheet_217 mk_X12_144 lm_0 (ci := 12) (q := (RX12, TX12, 36)) rfl rfl rfl rfl (Nat.le_of_ble_eq_true rfl) (by decide) (by decide) (Or.inl rfl) (tmX12_put e18) ?_
    refine pr_aload_n dX12_sheet_220 rfl ?_
    refine pr_iload dX12_sheet_221 rfl ?_
    refine pr_iconst dX12_sheet_223 ?_
    refine pr_aload_n dX12_sheet_224 rfl ?_
    refine pr_getR dX12_sheet_225 lk_X12_86 lm_0 rfl ?_
    refine pr_sipush dX12_sheet_228 (by decide) ?_
    refine pr_iald dX12_sheet_231 lm_25 (wr_eq (by decide) (by decide)) ⟨by decide, by decide⟩ ?_
    obtain ⟨q19, e20, h⟩ := pm_bs h
    refine pr_callV (As := [pv_i ((pm_up (pm_up (pm_up σ 25 (Int.toNat 753) ((σ 25 (Int.toNat 753)) + 1)) 25 (Int.toNat (wr (105 + (2 * w1)))) (((pm_up σ 25 (Int.toNat 753) ((σ 25 (Int.toNat 753)) + 1)) 25 (Int.toNat (wr (105 + (2 * w1))))) + 1)) 25 (Int.toNat (wr (105 + (2 * w1)))) 0) 25 (Int.toNat 752)), pv_i 3, pv_i (q17 25 (Int.toNat 751))]) (S := []) (t := 0) dX12_sheet_232 mk_X12_144 lm_0 (ci := 12) (q := (RX12, TX12, 36)) rfl rfl rfl rfl (Nat.le_of_ble_eq_true rfl) (by decide) (by decide) (Or.inl rfl) (tmX12_put e20) ?_
    refine pr_aload_n dX12_sheet_235 rfl ?_
    refine pr_iload dX12_sheet_236 rfl ?_
    refine pr_iconst dX12_sheet_238 ?_
    refine pr_bipush dX12_sheet_239 (by decide) ?_
    obtain ⟨q21, e22, h⟩ := pm_bs h
    refine pr_callV (As := [pv_i ((pm_up (pm_up (pm_up σ 25 (Int.toNat 753) ((σ 25 (Int.toNat 753)) + 1)) 25 (Int.toNat (wr (105 + (2 * w1)))) (((pm_up σ 25 (Int.toNat 753) ((σ 25 (Int.toNat 753)) + 1)) 25 (Int.toNat (wr (105 + (2 * w1))))) + 1)) 25 (Int.toNat (wr (105 + (2 * w1)))) 0) 25 (Int.toNat 752)), pv_i 4, pv_i (-9)]) (S := []) (t := 0) dX12_sheet_241 mk_X12_144 lm_0 (ci := 12) (q := (RX12, TX12, 36)) rfl rfl rfl rfl (Nat.le_of_ble_eq_true rfl) (by decide) (by decide) (Or.inl rfl) (tmX12_put e22) ?_
    refine pr_aload_n dX12_sheet_244 rfl ?_
    refine pr_iload dX12_sheet_245 rfl ?_
    refine pr_iconst dX12_sheet_247 ?_
    refine pr_iconst dX12_sheet_248 ?_
    obtain ⟨q23, e24, h⟩ := pm_bs h
    refine pr_callV (As := [pv_i ((pm_up (pm_up (pm_up σ 25 (Int.toNat 753) ((σ 25 (Int.toNat 753)) + 1)) 25 (Int.toNat (wr (105 + (2 * w1)))) (((pm_up σ 25 (Int.toNat 753) ((σ 25 (Int.toNat 753)) + 1)) 25 (Int.toNat (wr (105 + (2 * w1))))) + 1)) 25 (Int.toNat (wr (105 + (2 * w1)))) 0) 25 (Int.toNat 752)), pv_i 5, pv_i 0]) (S := []) (t := 0) dX12_sheet_249 mk_X12_144 lm_0 (ci := 12) (q := (RX12, TX12, 36)) rfl rfl rfl rfl (Nat.le_of_ble_eq_true rfl) (by decide) (by decide) (Or.inl rfl) (tmX12_put e24) ?_
    refine pr_aload_n dX12_sheet_252 rfl ?_
    refine pr_iload dX12_sheet_253 rfl ?_
    refine pr_bipush dX12_sheet_255 (by decide) ?_
    refine pr_bipush dX12_sheet_257 (by decide) ?_
    obtain ⟨q25, e26, h⟩ := pm_bs h
    refine pr_callV (As := [pv_i ((pm_up (pm_up (pm_up σ 25 (Int.toNat 753) ((σ 25 (Int.toNat 753)) + 1)) 25 (Int.toNat (wr (105 + (2 * w1)))) (((pm_up σ 25 (Int.toNat 753) ((σ 25 (Int.toNat 753)) + 1)) 25 (Int.toNat (wr (105 + (2 * w1))))) + 1)) 25 (Int.toNat (wr (105 + (2 * w1)))) 0) 25 (Int.toNat 752)), pv_i 6, pv_i (-9)]) (S := []) (t := 0) dX12_sheet_259 mk_X12_144 lm_0 (ci := 12) (q := (RX12, TX12, 36)) rfl rfl rfl rfl (Nat.le_of_ble_eq_true rfl) (by decide) (by decide) (Or.inl rfl) (tmX12_put e26) ?_
    refine pr_aload_n dX12_sheet_262 rfl ?_
    refine pr_iload dX12_sheet_263 rfl ?_
    refine pr_bipush dX12_sheet_265 (by decide) ?_
    refine pr_bipush dX12_sheet_267 (by decide) ?_
    obtain ⟨q27, e28, h⟩ := pm_bs h
    refine pr_callV (As := [pv_i ((pm_up (pm_up (pm_up σ 25 (Int.toNat 753) ((σ 25 (Int.toNat 753)) + 1)) 25 (Int.toNat (wr (105 + (2 * w1)))) (((pm_up σ 25 (Int.toNat 753) ((σ 25 (Int.toNat 753)) + 1)) 25 (Int.toNat (wr (105 + (2 * w1))))) + 1)) 25 (Int.toNat (wr (105 + (2 * w1)))) 0) 25 (Int.toNat 752)), pv_i 7, pv_i (-9)]) (S := []) (t := 0) dX12_sheet_269 mk_X12_144 lm_0 (ci := 12) (q := (RX12, TX12, 36)) rfl rfl rfl rfl (Nat.le_of_ble_eq_true rfl) (by decide) (by decide) (Or.inl rfl) (tmX12_put e28) ?_
    refine pr_iconst dX12_sheet_272 ?_
    refine pr_istore dX12_sheet_273 (by decide) rfl ?_
    obtain ⟨v33, e34, h⟩ := pm_bs h
    refine pr_weak (L2 := [some (pv_r 0), some (pv_i w1), none, none, none, some (pv_i ((pm_up (pm_up (pm_up σ 25 (Int.toNat 753) ((σ 25 (Int.toNat 753)) + 1)) 25 (Int.toNat (wr (105 + (2 * w1)))) (((pm_up σ 25 (Int.toNat 753) ((σ 25 (Int.toNat 753)) + 1)) 25 (Int.toNat (wr (105 + (2 * w1))))) + 1)) 25 (Int.toNat (wr (105 + (2 * w1)))) 0) 25 (Int.toNat 752))), some (pv_i 0)]) ⟨Or.inr rfl, Or.inr rfl, Or.inl rfl, Or.inl rfl, Or.inl rfl, Or.inr rfl, Or.inr rfl, trivial⟩ ?_
    refine pm_it_J (α := Int × pm_M) (β := Int × pm_M) (f := fun a => bdX12_sheet_275 w1 ((pm_up (pm_up (pm_up σ 25 (Int.toNat 753) ((σ 25 (Int.toNat 753)) + 1)) 25 (Int.toNat (wr (105 + (2 * w1)))) (((pm_up σ 25 (Int.toNat 753) ((σ 25 (Int.toNat 753)) + 1)) 25 (Int.toNat (wr (105 + (2 * w1))))) + 1)) 25 (Int.toNat (wr (105 + (2 * w1)))) 0) 25 (Int.toNat 752)) a.1 a.2) (P := fun a => pm_J mX12_sheet 2 44 lay0 none LAYM ρ 275 [some (pv_r 0), some (pv_i w1), none, none, none, some (pv_i ((pm_up (pm_up (pm_up σ 25 (Int.toNat 753) ((σ 25 (Int.toNat 753)) + 1)) 25 (Int.toNat (wr (105 + (2 * w1)))) (((pm_up σ 25 (Int.toNat 753) ((σ 25 (Int.toNat 753)) + 1)) 25 (Int.toNat (wr (105 + (2 * w1))))) + 1)) 25 (Int.toNat (wr (105 + (2 * w1)))) 0) 25 (Int.toNat 752))), some (pv_i a.1)] [] LAYM a.2) (Rx := fun a => pm_J mX12_sheet 2 44 lay0 none LAYM ρ 323 [none, none, none, none, none, none, none] [] LAYM a.2) (tbX12_sheet_275 w1 ((pm_up (pm_up (pm_up σ 25 (Int.toNat 753) ((σ 25 (Int.toNat 753)) + 1)) 25 (Int.toNat (wr (105 + (2 * w1)))) (((pm_up σ 25 (Int.toNat 753) ((σ 25 (Int.toNat 753)) + 1)) 25 (Int.toNat (wr (105 + (2 * w1))))) + 1)) 25 (Int.toNat (wr (105 + (2 * w1)))) 0) 25 (Int.toNat 752))) pm_fuel (0, q27) v33 e34 ?_
    show pm_J mX12_sheet 2 44 lay0 none LAYM ρ 323 [none, none, none, none, none, none, none] [] LAYM v33.2
    have h := Option.some.inj h
    subst h
    exact pr_vret dX12_sheet_323 rfl
  · have h := pm_ng c_10 h
    have h := Option.some.inj h
    subst h
    exact pr_vret dX12_sheet_156 rfl
def bdX12_sheet_61 (y1 : Int) (y2 : Int) (y3 : Int) (y4 : Int) (z5 : Int) (σ : pm_M) : Option ((Int × pm_M) ⊕ (Int × pm_M)) :=
  if 6 ≤ (wr z5) then (some (.inl (z5, σ))) else (pm_g (0 ≤ (wr ((6 * y4) + z5)) ∧ (wr ((6 * y4) + z5)) < 48) (pm_g (0 ≤ (wr ((6 * ((60 * y1) + y3)) + z5)) ∧ (wr ((6 * ((60 * y1) + y3)) + z5)) < 1080) (some (.inr ((z5 + 1), (pm_up σ 23 (Int.toNat (wr ((6 * ((60 * y1) + y3)) + z5))) (σ 12 (Int.toNat (wr ((6 * y4) + z5))))))))))
set_option maxHeartbeats 4000000 in
set_option maxRecDepth 100000 in
theorem tbX12_sheet_61 {lay0 lay' : List pm_S} {r : Option pm_V} {σ' : pm_M} (y1 : Int) (y2 : Int) (y3 : Int) (y4 : Int) : ∀ (a : Int × pm_M) (e : (Int × pm_M) ⊕ (Int × pm_M)), (fun a => bdX12_sheet_61 y1 y2 y3 y4 a.1 a.2) a = some e → (∀ a, e = .inr a → (fun a => pm_J mX12_sheet 2 44 lay0 r lay' σ' 61 [some (pv_r 0), some (pv_i y1), some (pv_i y2), some (pv_i y3), some (pv_i y4), some (pv_i a.1), none] [] LAYM a.2) a) → (∀ a, e = .inl a → (fun a => pm_J mX12_sheet 2 44 lay0 r lay' σ' 104 [some (pv_r 0), some (pv_i y1), some (pv_i y2), some (pv_i y3), some (pv_i y4), none, none] [] LAYM a.2) a) → (fun a => pm_J mX12_sheet 2 44 lay0 r lay' σ' 61 [some (pv_r 0), some (pv_i y1), some (pv_i y2), some (pv_i y3), some (pv_i y4), some (pv_i a.1), none] [] LAYM a.2) a := by
  intro a e h hc hx
  obtain ⟨z5, σ⟩ := a
  have h : bdX12_sheet_61 y1 y2 y3 y4 z5 σ = some e := h
  unfold bdX12_sheet_61 at h
  show pm_J mX12_sheet 2 44 lay0 r lay' σ' 61 [some (pv_r 0), some (pv_i y1), some (pv_i y2), some (pv_i y3), some (pv_i y4), some (pv_i z5), none] [] LAYM σ
  refine pr_iload dX12_sheet_61 rfl ?_
  refine pr_bipush dX12_sheet_63 (by decide) ?_
  refine pr_icmp_ge (tgt := 104) dX12_sheet_65 rfl (wr_eq (by decide) (by decide)) (by decide) (fun c_35 => ?_) (fun c_35 => ?_)
  · have h := pm_pos c_35 h
    refine pr_weak (L2 := [some (pv_r 0), some (pv_i y1), some (pv_i y2), some (pv_i y3), some (pv_i y4), none, none]) ⟨Or.inr rfl, Or.inr rfl, Or.inr rfl, Or.inr rfl, Or.inr rfl, Or.inl rfl, Or.inl rfl, trivial⟩ ?_
    exact hx (z5, σ) (Option.some.inj h).symm
  · have h := pm_ng c_35 h
    refine pr_aload_n dX12_sheet_68 rfl ?_
    refine pr_getR dX12_sheet_69 lk_X12_80 lm_0 rfl ?_
    refine pr_bipush dX12_sheet_72 (by decide) ?_
    refine pr_bipush dX12_sheet_74 (by decide) ?_
    refine pr_iload_n dX12_sheet_76 rfl ?_
    refine pr_imul dX12_sheet_77 ?_
    refine pr_iload_n dX12_sheet_78 rfl ?_
    refine pr_iadd dX12_sheet_79 ?_
    refine pr_imul dX12_sheet_80 ?_
    refine pr_iload dX12_sheet_81 rfl ?_
    refine pr_iadd dX12_sheet_83 ?_
    refine pr_aload_n dX12_sheet_84 rfl ?_
    refine pr_getR dX12_sheet_85 lk_X12_43 lm_0 rfl ?_
    refine pr_bipush dX12_sheet_88 (by decide) ?_
    refine pr_iload dX12_sheet_90 rfl ?_
    refine pr_imul dX12_sheet_92 ?_
    refine pr_iload dX12_sheet_93 rfl ?_
    refine pr_iadd dX12_sheet_95 ?_
    obtain ⟨g_36, h⟩ := pm_gs h
    refine pr_iald dX12_sheet_96 lm_12 rfl g_36 ?_
    obtain ⟨g_37, h⟩ := pm_gs h
    refine pr_iast dX12_sheet_97 lm_23 rfl g_37 ?_
    refine pr_iinc dX12_sheet_98 rfl (by decide) rfl ?_
    refine pr_goto (tgt := 61) dX12_sheet_101 (by decide) ?_
    refine pr_weak (L2 := [some (pv_r 0), some (pv_i y1), some (pv_i y2), some (pv_i y3), some (pv_i y4), some (pv_i (z5 + 1)), none]) ⟨Or.inr rfl, Or.inr rfl, Or.inr rfl, Or.inr rfl, Or.inr rfl, Or.inr rfl, Or.inl rfl, trivial⟩ ?_
    exact hc ((z5 + 1), (pm_up σ 23 (Int.toNat (wr ((6 * ((60 * y1) + y3)) + z5))) (σ 12 (Int.toNat (wr ((6 * y4) + z5)))))) (Option.some.inj h).symm
def fX12_sheet (x1 : Int) (σ : pm_M) : Option (pm_M) :=
  pm_g (0 ≤ (wr x1) ∧ (wr x1) < 3) (pm_g (0 ≤ (wr x1) ∧ (wr x1) < 3) (pm_g (0 ≤ (wr (96 + (σ 15 (Int.toNat (wr x1))))) ∧ (wr (96 + (σ 15 (Int.toNat (wr x1))))) < 755) (pm_g (0 ≤ (wr (σ 14 (Int.toNat (wr x1)))) ∧ (wr (σ 14 (Int.toNat (wr x1)))) < 4) (pm_g (0 ≤ (wr (96 + (σ 15 (Int.toNat (wr x1))))) ∧ (wr (96 + (σ 15 (Int.toNat (wr x1))))) < 755) (pm_g (0 ≤ (wr (105 + (2 * x1))) ∧ (wr (105 + (2 * x1))) < 755) (if (wr ((pm_up σ 25 (Int.toNat (wr (96 + (σ 15 (Int.toNat (wr x1)))))) ((σ 25 (Int.toNat (wr (96 + (σ 15 (Int.toNat (wr x1))))))) - (σ 11 (Int.toNat (wr (σ 14 (Int.toNat (wr x1)))))))) 0 32)) = 0 then ((pm_it (fun a => bdX12_sheet_61 x1 (σ 14 (Int.toNat (wr x1))) ((pm_up σ 25 (Int.toNat (wr (96 + (σ 15 (Int.toNat (wr x1)))))) ((σ 25 (Int.toNat (wr (96 + (σ 15 (Int.toNat (wr x1))))))) - (σ 11 (Int.toNat (wr (σ 14 (Int.toNat (wr x1)))))))) 25 (Int.toNat (wr (105 + (2 * x1))))) ((2 * (σ 14 (Int.toNat (wr x1)))) + (Int.tmod (wr ((pm_up σ 25 (Int.toNat (wr (96 + (σ 15 (Int.toNat (wr x1)))))) ((σ 25 (Int.toNat (wr (96 + (σ 15 (Int.toNat (wr x1))))))) - (σ 11 (Int.toNat (wr (σ 14 (Int.toNat (wr x1)))))))) 25 (Int.toNat (wr (105 + (2 * x1)))))) 2)) a.1 a.2) pm_fuel (0, (pm_up σ 25 (Int.toNat (wr (96 + (σ 15 (Int.toNat (wr x1)))))) ((σ 25 (Int.toNat (wr (96 + (σ 15 (Int.toNat (wr x1))))))) - (σ 11 (Int.toNat (wr (σ 14 (Int.toNat (wr x1)))))))))).bind fun v38 => pm_g (0 ≤ (wr ((2 * (σ 14 (Int.toNat (wr x1)))) + (Int.tmod (wr ((pm_up σ 25 (Int.toNat (wr (96 + (σ 15 (Int.toNat (wr x1)))))) ((σ 25 (Int.toNat (wr (96 + (σ 15 (Int.toNat (wr x1))))))) - (σ 11 (Int.toNat (wr (σ 14 (Int.toNat (wr x1)))))))) 25 (Int.toNat (wr (105 + (2 * x1)))))) 2))) ∧ (wr ((2 * (σ 14 (Int.toNat (wr x1)))) + (Int.tmod (wr ((pm_up σ 25 (Int.toNat (wr (96 + (σ 15 (Int.toNat (wr x1)))))) ((σ 25 (Int.toNat (wr (96 + (σ 15 (Int.toNat (wr x1))))))) - (σ 11 (Int.toNat (wr (σ 14 (Int.toNat (wr x1)))))))) 25 (Int.toNat (wr (105 + (2 * x1)))))) 2))) < 8) (pm_g (0 ≤ (wr ((2 * (σ 14 (Int.toNat (wr x1)))) + (Int.tmod (wr ((pm_up σ 25 (Int.toNat (wr (96 + (σ 15 (Int.toNat (wr x1)))))) ((σ 25 (Int.toNat (wr (96 + (σ 15 (Int.toNat (wr x1))))))) - (σ 11 (Int.toNat (wr (σ 14 (Int.toNat (wr x1)))))))) 25 (Int.toNat (wr (105 + (2 * x1)))))) 2))) ∧ (wr ((2 * (σ 14 (Int.toNat (wr x1)))) + (Int.tmod (wr ((pm_up σ 25 (Int.toNat (wr (96 + (σ 15 (Int.toNat (wr x1)))))) ((σ 25 (Int.toNat (wr (96 + (σ 15 (Int.toNat (wr x1))))))) - (σ 11 (Int.toNat (wr (σ 14 (Int.toNat (wr x1)))))))) 25 (Int.toNat (wr (105 + (2 * x1)))))) 2))) < 8) ((fX12_wanders ((2 * (σ 14 (Int.toNat (wr x1)))) + (Int.tmod (wr ((pm_up σ 25 (Int.toNat (wr (96 + (σ 15 (Int.toNat (wr x1)))))) ((σ 25 (Int.toNat (wr (96 + (σ 15 (Int.toNat (wr x1))))))) - (σ 11 (Int.toNat (wr (σ 14 (Int.toNat (wr x1)))))))) 25 (Int.toNat (wr (105 + (2 * x1)))))) 2)) (pm_up v38.2 13 (Int.toNat (wr ((2 * (σ 14 (Int.toNat (wr x1)))) + (Int.tmod (wr ((pm_up σ 25 (Int.toNat (wr (96 + (σ 15 (Int.toNat (wr x1)))))) ((σ 25 (Int.toNat (wr (96 + (σ 15 (Int.toNat (wr x1))))))) - (σ 11 (Int.toNat (wr (σ 14 (Int.toNat (wr x1)))))))) 25 (Int.toNat (wr (105 + (2 * x1)))))) 2)))) ((v38.2 13 (Int.toNat (wr ((2 * (σ 14 (Int.toNat (wr x1)))) + (Int.tmod (wr ((pm_up σ 25 (Int.toNat (wr (96 + (σ 15 (Int.toNat (wr x1)))))) ((σ 25 (Int.toNat (wr (96 + (σ 15 (Int.toNat (wr x1))))))) - (σ 11 (Int.toNat (wr (σ 14 (Int.toNat (wr x1)))))))) 25 (Int.toNat (wr (105 + (2 * x1)))))) 2))))) + 1))).bind fun q42 => jnX12_sheet_121 x1 (σ 14 (Int.toNat (wr x1))) ((pm_up σ 25 (Int.toNat (wr (96 + (σ 15 (Int.toNat (wr x1)))))) ((σ 25 (Int.toNat (wr (96 + (σ 15 (Int.toNat (wr x1))))))) - (σ 11 (Int.toNat (wr (σ 14 (Int.toNat (wr x1)))))))) 25 (Int.toNat (wr (105 + (2 * x1))))) q42))) else (jnX12_sheet_121 x1 (σ 14 (Int.toNat (wr x1))) ((pm_up σ 25 (Int.toNat (wr (96 + (σ 15 (Int.toNat (wr x1)))))) ((σ 25 (Int.toNat (wr (96 + (σ 15 (Int.toNat (wr x1))))))) - (σ 11 (Int.toNat (wr (σ 14 (Int.toNat (wr x1)))))))) 25 (Int.toNat (wr (105 + (2 * x1))))) (pm_up σ 25 (Int.toNat (wr (96 + (σ 15 (Int.toNat (wr x1)))))) ((σ 25 (Int.toNat (wr (96 + (σ 15 (Int.toNat (wr x1))))))) - (σ 11 (Int.toNat (wr (σ 14 (Int.toNat (wr x1)))))))))))))))
set_option maxHeartbeats 4000000 in
set_option maxRecDepth 100000 in
theorem tmX12_sheet {x1 : Int} {σ : pm_M} {ρ : pm_M} (h : fX12_sheet x1 σ = some ρ) : pm_C mX12_sheet 2 44 [pv_r 0, pv_i x1] LAYM σ none LAYM ρ := by
  refine pm_C.of (by decide) rfl (Nat.le_of_ble_eq_true rfl) ?_
  show pm_J mX12_sheet 2 44 LAYM none LAYM ρ 0 [some (pv_r 0), some (pv_i x1), none, none, none, none, none] [] LAYM σ
  unfold fX12_sheet at h
  refine pr_aload_n dX12_sheet_0 rfl ?_
  refine pr_getR dX12_sheet_1 lk_X12_49 lm_0 rfl ?_
  refine pr_iload_n dX12_sheet_4 rfl ?_
  obtain ⟨g_1, h⟩ := pm_gs h
  refine pr_iald dX12_sheet_5 lm_14 rfl g_1 ?_
  refine pr_istore_n dX12_sheet_6 (by decide) rfl ?_
  refine pr_aload_n dX12_sheet_7 rfl ?_
  refine pr_getR dX12_sheet_8 lk_X12_86 lm_0 rfl ?_
  refine pr_bipush dX12_sheet_11 (by decide) ?_
  refine pr_aload_n dX12_sheet_13 rfl ?_
  refine pr_getR dX12_sheet_14 lk_X12_52 lm_0 rfl ?_
  refine pr_iload_n dX12_sheet_17 rfl ?_
  obtain ⟨g_2, h⟩ := pm_gs h
  refine pr_iald dX12_sheet_18 lm_15 rfl g_2 ?_
  refine pr_iadd dX12_sheet_19 ?_
  refine pr_dup2 dX12_sheet_20 rfl rfl ?_
  obtain ⟨g_3, h⟩ := pm_gs h
  refine pr_iald dX12_sheet_21 lm_25 rfl g_3 ?_
  refine pr_aload_n dX12_sheet_22 rfl ?_
  refine pr_getR dX12_sheet_23 lk_X12_40 lm_0 rfl ?_
  refine pr_iload_n dX12_sheet_26 rfl ?_
  obtain ⟨g_4, h⟩ := pm_gs h
  refine pr_iald dX12_sheet_27 lm_11 rfl g_4 ?_
  refine pr_isub dX12_sheet_28 ?_
  obtain ⟨g_5, h⟩ := pm_gs h
  refine pr_iast dX12_sheet_29 lm_25 rfl g_5 ?_
  refine pr_aload_n dX12_sheet_30 rfl ?_
  refine pr_getR dX12_sheet_31 lk_X12_86 lm_0 rfl ?_
  refine pr_bipush dX12_sheet_34 (by decide) ?_
  refine pr_iconst dX12_sheet_36 ?_
  refine pr_iload_n dX12_sheet_37 rfl ?_
  refine pr_imul dX12_sheet_38 ?_
  refine pr_iadd dX12_sheet_39 ?_
  obtain ⟨g_6, h⟩ := pm_gs h
  refine pr_iald dX12_sheet_40 lm_25 rfl g_6 ?_
  refine pr_istore_n dX12_sheet_41 (by decide) rfl ?_
  refine pr_iconst dX12_sheet_42 ?_
  refine pr_iload_n dX12_sheet_43 rfl ?_
  refine pr_imul dX12_sheet_44 ?_
  refine pr_iload_n dX12_sheet_45 rfl ?_
  refine pr_iconst dX12_sheet_46 ?_
  refine pr_irem dX12_sheet_47 rfl (wr_eq (by decide) (by decide)) (by decide) ?_
  refine pr_iadd dX12_sheet_48 ?_
  refine pr_istore dX12_sheet_49 (by decide) rfl ?_
  refine pr_aload_n dX12_sheet_51 rfl ?_
  refine pr_getI dX12_sheet_52 lk_X12_176 lm_0 rfl ?_
  refine pr_if_ne (tgt := 121) dX12_sheet_55 rfl (by decide) (fun c_7 => ?_) (fun c_7 => ?_)
  · have h := pm_ng c_7 h
    refine pr_weak (L2 := [some (pv_r 0), some (pv_i x1), some (pv_i (σ 14 (Int.toNat (wr x1)))), some (pv_i ((pm_up σ 25 (Int.toNat (wr (96 + (σ 15 (Int.toNat (wr x1)))))) ((σ 25 (Int.toNat (wr (96 + (σ 15 (Int.toNat (wr x1))))))) - (σ 11 (Int.toNat (wr (σ 14 (Int.toNat (wr x1)))))))) 25 (Int.toNat (wr (105 + (2 * x1)))))), none, none, none]) ⟨Or.inr rfl, Or.inr rfl, Or.inr rfl, Or.inr rfl, Or.inl rfl, Or.inl rfl, Or.inl rfl, trivial⟩ ?_
    exact tjX12_sheet_121 h
  · have h := pm_pos c_7 h
    refine pr_iconst dX12_sheet_58 ?_
    refine pr_istore dX12_sheet_59 (by decide) rfl ?_
    obtain ⟨v38, e39, h⟩ := pm_bs h
    refine pr_weak (L2 := [some (pv_r 0), some (pv_i x1), some (pv_i (σ 14 (Int.toNat (wr x1)))), some (pv_i ((pm_up σ 25 (Int.toNat (wr (96 + (σ 15 (Int.toNat (wr x1)))))) ((σ 25 (Int.toNat (wr (96 + (σ 15 (Int.toNat (wr x1))))))) - (σ 11 (Int.toNat (wr (σ 14 (Int.toNat (wr x1)))))))) 25 (Int.toNat (wr (105 + (2 * x1)))))), some (pv_i ((2 * (σ 14 (Int.toNat (wr x1)))) + (Int.tmod (wr ((pm_up σ 25 (Int.toNat (wr (96 + (σ 15 (Int.toNat (wr x1)))))) ((σ 25 (Int.toNat (wr (96 + (σ 15 (Int.toNat (wr x1))))))) - (σ 11 (Int.toNat (wr (σ 14 (Int.toNat (wr x1)))))))) 25 (Int.toNat (wr (105 + (2 * x1)))))) 2))), some (pv_i 0), none]) ⟨Or.inr rfl, Or.inr rfl, Or.inr rfl, Or.inr rfl, Or.inr rfl, Or.inr rfl, Or.inl rfl, trivial⟩ ?_
    refine pm_it_J (α := Int × pm_M) (β := Int × pm_M) (f := fun a => bdX12_sheet_61 x1 (σ 14 (Int.toNat (wr x1))) ((pm_up σ 25 (Int.toNat (wr (96 + (σ 15 (Int.toNat (wr x1)))))) ((σ 25 (Int.toNat (wr (96 + (σ 15 (Int.toNat (wr x1))))))) - (σ 11 (Int.toNat (wr (σ 14 (Int.toNat (wr x1)))))))) 25 (Int.toNat (wr (105 + (2 * x1))))) ((2 * (σ 14 (Int.toNat (wr x1)))) + (Int.tmod (wr ((pm_up σ 25 (Int.toNat (wr (96 + (σ 15 (Int.toNat (wr x1)))))) ((σ 25 (Int.toNat (wr (96 + (σ 15 (Int.toNat (wr x1))))))) - (σ 11 (Int.toNat (wr (σ 14 (Int.toNat (wr x1)))))))) 25 (Int.toNat (wr (105 + (2 * x1)))))) 2)) a.1 a.2) (P := fun a => pm_J mX12_sheet 2 44 LAYM none LAYM ρ 61 [some (pv_r 0), some (pv_i x1), some (pv_i (σ 14 (Int.toNat (wr x1)))), some (pv_i ((pm_up σ 25 (Int.toNat (wr (96 + (σ 15 (Int.toNat (wr x1)))))) ((σ 25 (Int.toNat (wr (96 + (σ 15 (Int.toNat (wr x1))))))) - (σ 11 (Int.toNat (wr (σ 14 (Int.toNat (wr x1)))))))) 25 (Int.toNat (wr (105 + (2 * x1)))))), some (pv_i ((2 * (σ 14 (Int.toNat (wr x1)))) + (Int.tmod (wr ((pm_up σ 25 (Int.toNat (wr (96 + (σ 15 (Int.toNat (wr x1)))))) ((σ 25 (Int.toNat (wr (96 + (σ 15 (Int.toNat (wr x1))))))) - (σ 11 (Int.toNat (wr (σ 14 (Int.toNat (wr x1)))))))) 25 (Int.toNat (wr (105 + (2 * x1)))))) 2))), some (pv_i a.1), none] [] LAYM a.2) (Rx := fun a => pm_J mX12_sheet 2 44 LAYM none LAYM ρ 104 [some (pv_r 0), some (pv_i x1), some (pv_i (σ 14 (Int.toNat (wr x1)))), some (pv_i ((pm_up σ 25 (Int.toNat (wr (96 + (σ 15 (Int.toNat (wr x1)))))) ((σ 25 (Int.toNat (wr (96 + (σ 15 (Int.toNat (wr x1))))))) - (σ 11 (Int.toNat (wr (σ 14 (Int.toNat (wr x1)))))))) 25 (Int.toNat (wr (105 + (2 * x1)))))), some (pv_i ((2 * (σ 14 (Int.toNat (wr x1)))) + (Int.tmod (wr ((pm_up σ 25 (Int.toNat (wr (96 + (σ 15 (Int.toNat (wr x1)))))) ((σ 25 (Int.toNat (wr (96 + (σ 15 (Int.toNat (wr x1))))))) - (σ 11 (Int.toNat (wr (σ 14 (Int.toNat (wr x1)))))))) 25 (Int.toNat (wr (105 + (2 * x1)))))) 2))), none, none] [] LAYM a.2) (tbX12_sheet_61 x1 (σ 14 (Int.toNat (wr x1))) ((pm_up σ 25 (Int.toNat (wr (96 + (σ 15 (Int.toNat (wr x1)))))) ((σ 25 (Int.toNat (wr (96 + (σ 15 (Int.toNat (wr x1))))))) - (σ 11 (Int.toNat (wr (σ 14 (Int.toNat (wr x1)))))))) 25 (Int.toNat (wr (105 + (2 * x1))))) ((2 * (σ 14 (Int.toNat (wr x1)))) + (Int.tmod (wr ((pm_up σ 25 (Int.toNat (wr (96 + (σ 15 (Int.toNat (wr x1)))))) ((σ 25 (Int.toNat (wr (96 + (σ 15 (Int.toNat (wr x1))))))) - (σ 11 (Int.toNat (wr (σ 14 (Int.toNat (wr x1)))))))) 25 (Int.toNat (wr (105 + (2 * x1)))))) 2))) pm_fuel (0, (pm_up σ 25 (Int.toNat (wr (96 + (σ 15 (Int.toNat (wr x1)))))) ((σ 25 (Int.toNat (wr (96 + (σ 15 (Int.toNat (wr x1))))))) - (σ 11 (Int.toNat (wr (σ 14 (Int.toNat (wr x1))))))))) v38 e39 ?_
    show pm_J mX12_sheet 2 44 LAYM none LAYM ρ 104 [some (pv_r 0), some (pv_i x1), some (pv_i (σ 14 (Int.toNat (wr x1)))), some (pv_i ((pm_up σ 25 (Int.toNat (wr (96 + (σ 15 (Int.toNat (wr x1)))))) ((σ 25 (Int.toNat (wr (96 + (σ 15 (Int.toNat (wr x1))))))) - (σ 11 (Int.toNat (wr (σ 14 (Int.toNat (wr x1)))))))) 25 (Int.toNat (wr (105 + (2 * x1)))))), some (pv_i ((2 * (σ 14 (Int.toNat (wr x1)))) + (Int.tmod (wr ((pm_up σ 25 (Int.toNat (wr (96 + (σ 15 (Int.toNat (wr x1)))))) ((σ 25 (Int.toNat (wr (96 + (σ 15 (Int.toNat (wr x1))))))) - (σ 11 (Int.toNat (wr (σ 14 (Int.toNat (wr x1)))))))) 25 (Int.toNat (wr (105 + (2 * x1)))))) 2))), none, none] [] LAYM v38.2
    refine pr_aload_n dX12_sheet_104 rfl ?_
    refine pr_getR dX12_sheet_105 lk_X12_46 lm_0 rfl ?_
    refine pr_iload dX12_sheet_108 rfl ?_
    refine pr_dup2 dX12_sheet_110 rfl rfl ?_
    obtain ⟨g_40, h⟩ := pm_gs h
    refine pr_iald dX12_sheet_111 lm_13 rfl g_40 ?_
    refine pr_iconst dX12_sheet_112 ?_
    refine pr_iadd dX12_sheet_113 ?_
    obtain ⟨g_41, h⟩ := pm_gs h
    refine pr_iast dX12_sheet_114 lm_13 rfl g_41 ?_
    refine pr_aload_n dX12_sheet_115 rfl ?_
    refine pr_iload dX12_sheet_116 rfl ?_
    obtain ⟨q42, e43, h⟩ := pm_bs h
    refine pr_callV (As := [pv_i ((2 * (σ 14 (Int.toNat (wr x1)))) + (Int.tmod (wr ((pm_up σ 25 (Int.toNat (wr (96 + (σ 15 (Int.toNat (wr x1)))))) ((σ 25 (Int.toNat (wr (96 + (σ 15 (Int.toNat (wr x1))))))) - (σ 11 (Int.toNat (wr (σ 14 (Int.toNat (wr x1)))))))) 25 (Int.toNat (wr (105 + (2 * x1)))))) 2))]) (S := []) (t := 0) dX12_sheet_118 mk_X12_180 lm_0 (ci := 12) (q := (RX12, TX12, 36)) rfl rfl rfl rfl (Nat.le_of_ble_eq_true rfl) (by decide) (by decide) (Or.inl rfl) (tmX12_wanders e43) ?_
    refine pr_weak (L2 := [some (pv_r 0), some (pv_i x1), some (pv_i (σ 14 (Int.toNat (wr x1)))), some (pv_i ((pm_up σ 25 (Int.toNat (wr (96 + (σ 15 (Int.toNat (wr x1)))))) ((σ 25 (Int.toNat (wr (96 + (σ 15 (Int.toNat (wr x1))))))) - (σ 11 (Int.toNat (wr (σ 14 (Int.toNat (wr x1)))))))) 25 (Int.toNat (wr (105 + (2 * x1)))))), none, none, none]) ⟨Or.inr rfl, Or.inr rfl, Or.inr rfl, Or.inr rfl, Or.inl rfl, Or.inl rfl, Or.inl rfl, trivial⟩ ?_
    exact tjX12_sheet_121 h
