def fX12_best (x1 : Int) (σ : pm_M) : Option (Int × pm_M) :=
  (fX12_bests x1 σ).bind fun q1 => if (wr q1.1) = 0 then (some ((q1.2 0 34), q1.2)) else ((fX12_refuse q1.1 q1.2).bind fun q4 => some (q4.1, q4.2))
set_option maxHeartbeats 4000000 in
set_option maxRecDepth 100000 in
theorem tmX12_best {x1 : Int} {σ : pm_M} {ρ : Int × pm_M} (h : fX12_best x1 σ = some ρ) : pm_C mX12_best 2 55 [pv_r 0, pv_i x1] LAYM σ (some (pv_i ρ.1)) LAYM ρ.2 := by
  refine pm_C.of rfl rfl (by decide) ?_
  show pm_J mX12_best 2 55 LAYM (some (pv_i ρ.1)) LAYM ρ.2 0 [some (pv_r 0), some (pv_i x1), none] [] LAYM σ
  unfold fX12_best at h
  refine pr_aload_n dX12_best_0 rfl ?_
  refine pr_iload_n dX12_best_1 rfl ?_
  obtain ⟨q1, e2, h⟩ := pm_bs h
  refine pr_callV (As := [pv_i x1]) (S := []) (t := 0) dX12_best_2 mk_X12_173 lm_0 (ci := 12) (q := (RX12, TX12, 36)) rfl rfl rfl rfl (by decide) (by decide) (by decide) (Or.inl rfl) (tmX12_bests e2) ?_
  refine pr_istore_n dX12_best_5 (by decide) rfl ?_
  refine pr_iload_n dX12_best_6 rfl ?_
  refine pr_if_eq (tgt := 18) dX12_best_7 rfl (by decide) (fun c_3 => ?_) (fun c_3 => ?_)
  · have h := pm_pos c_3 h
    refine pr_aload_n dX12_best_18 rfl ?_
    refine pr_getI dX12_best_19 lk_X12_165 lm_0 rfl ?_
    have h := Option.some.inj h
    subst h
    exact pr_iret dX12_best_22 rfl
  · have h := pm_ng c_3 h
    refine pr_aload_n dX12_best_10 rfl ?_
    refine pr_iload_n dX12_best_11 rfl ?_
    obtain ⟨q4, e5, h⟩ := pm_bs h
    refine pr_callV (As := [pv_i q1.1]) (S := []) (t := 0) dX12_best_12 mk_X12_103 lm_0 (ci := 12) (q := (RX12, TX12, 36)) rfl rfl rfl rfl (by decide) (by decide) (by decide) (Or.inl rfl) (tmX12_refuse e5) ?_
    refine pr_goto (tgt := 22) dX12_best_15 (by decide) ?_
    have h := Option.some.inj h
    subst h
    exact pr_iret dX12_best_22 rfl
def fX12_bestWorth (x1 : Int) (σ : pm_M) : Option (Int × pm_M) :=
  (fX12_bests x1 σ).bind fun q1 => if (wr q1.1) = 0 then (some ((q1.2 0 35), q1.2)) else ((fX12_refuse q1.1 q1.2).bind fun q4 => some (q4.1, q4.2))
set_option maxHeartbeats 4000000 in
set_option maxRecDepth 100000 in
theorem tmX12_bestWorth {x1 : Int} {σ : pm_M} {ρ : Int × pm_M} (h : fX12_bestWorth x1 σ = some ρ) : pm_C mX12_bestWorth 2 55 [pv_r 0, pv_i x1] LAYM σ (some (pv_i ρ.1)) LAYM ρ.2 := by
  refine pm_C.of rfl rfl (by decide) ?_
  show pm_J mX12_bestWorth 2 55 LAYM (some (pv_i ρ.1)) LAYM ρ.2 0 [some (pv_r 0), some (pv_i x1), none] [] LAYM σ
  unfold fX12_bestWorth at h
  refine pr_aload_n dX12_bestWorth_0 rfl ?_
  refine pr_iload_n dX12_bestWorth_1 rfl ?_
  obtain ⟨q1, e2, h⟩ := pm_bs h
  refine pr_callV (As := [pv_i x1]) (S := []) (t := 0) dX12_bestWorth_2 mk_X12_173 lm_0 (ci := 12) (q := (RX12, TX12, 36)) rfl rfl rfl rfl (by decide) (by decide) (by decide) (Or.inl rfl) (tmX12_bests e2) ?_
  refine pr_istore_n dX12_bestWorth_5 (by decide) rfl ?_
  refine pr_iload_n dX12_bestWorth_6 rfl ?_
  refine pr_if_eq (tgt := 18) dX12_bestWorth_7 rfl (by decide) (fun c_3 => ?_) (fun c_3 => ?_)
  · have h := pm_pos c_3 h
    refine pr_aload_n dX12_bestWorth_18 rfl ?_
    refine pr_getI dX12_bestWorth_19 lk_X12_168 lm_0 rfl ?_
    have h := Option.some.inj h
    subst h
    exact pr_iret dX12_bestWorth_22 rfl
  · have h := pm_ng c_3 h
    refine pr_aload_n dX12_bestWorth_10 rfl ?_
    refine pr_iload_n dX12_bestWorth_11 rfl ?_
    obtain ⟨q4, e5, h⟩ := pm_bs h
    refine pr_callV (As := [pv_i q1.1]) (S := []) (t := 0) dX12_bestWorth_12 mk_X12_103 lm_0 (ci := 12) (q := (RX12, TX12, 36)) rfl rfl rfl rfl (by decide) (by decide) (by decide) (Or.inl rfl) (tmX12_refuse e5) ?_
    refine pr_goto (tgt := 22) dX12_bestWorth_15 (by decide) ?_
    have h := Option.some.inj h
    subst h
    exact pr_iret dX12_bestWorth_22 rfl
def fX12_wanders (x1 : Int) (σ : pm_M) : Option (pm_M) :=
  pm_g (0 ≤ (wr x1) ∧ (wr x1) < 8) (pm_g (0 ≤ (wr x1) ∧ (wr x1) < 8) (if (wr (Int.tmod (wr (σ 13 (Int.toNat (wr x1)))) 50)) = 0 then (pm_g (0 ≤ (wr ((6 * x1) + (Int.tmod (wr ((Int.tdiv (wr (σ 13 (Int.toNat (wr x1)))) 50) + x1)) 6))) ∧ (wr ((6 * x1) + (Int.tmod (wr ((Int.tdiv (wr (σ 13 (Int.toNat (wr x1)))) 50) + x1)) 6))) < 48) (if (wr (Int.tmod (wr (Int.tdiv (wr (Int.tdiv (wr (σ 13 (Int.toNat (wr x1)))) 50)) 6)) 2)) = 0 then ((fJ9_min_7cf53 99 ((σ 12 (Int.toNat (wr ((6 * x1) + (Int.tmod (wr ((Int.tdiv (wr (σ 13 (Int.toNat (wr x1)))) 50) + x1)) 6))))) + 1)).bind fun q11 => (fJ9_max_7cf53 0 q11).bind fun q13 => pm_g (0 ≤ (wr ((6 * x1) + (Int.tmod (wr ((Int.tdiv (wr (σ 13 (Int.toNat (wr x1)))) 50) + x1)) 6))) ∧ (wr ((6 * x1) + (Int.tmod (wr ((Int.tdiv (wr (σ 13 (Int.toNat (wr x1)))) 50) + x1)) 6))) < 48) (some (pm_up σ 12 (Int.toNat (wr ((6 * x1) + (Int.tmod (wr ((Int.tdiv (wr (σ 13 (Int.toNat (wr x1)))) 50) + x1)) 6)))) q13))) else ((fJ9_min_7cf53 99 ((σ 12 (Int.toNat (wr ((6 * x1) + (Int.tmod (wr ((Int.tdiv (wr (σ 13 (Int.toNat (wr x1)))) 50) + x1)) 6))))) + (-1))).bind fun q6 => (fJ9_max_7cf53 0 q6).bind fun q8 => pm_g (0 ≤ (wr ((6 * x1) + (Int.tmod (wr ((Int.tdiv (wr (σ 13 (Int.toNat (wr x1)))) 50) + x1)) 6))) ∧ (wr ((6 * x1) + (Int.tmod (wr ((Int.tdiv (wr (σ 13 (Int.toNat (wr x1)))) 50) + x1)) 6))) < 48) (some (pm_up σ 12 (Int.toNat (wr ((6 * x1) + (Int.tmod (wr ((Int.tdiv (wr (σ 13 (Int.toNat (wr x1)))) 50) + x1)) 6)))) q8))))) else (some σ)))
set_option maxHeartbeats 4000000 in
set_option maxRecDepth 100000 in
theorem tmX12_wanders {x1 : Int} {σ : pm_M} {ρ : pm_M} (h : fX12_wanders x1 σ = some ρ) : pm_C mX12_wanders 1 21 [pv_r 0, pv_i x1] LAYM σ none LAYM ρ := by
  refine pm_C.of rfl rfl (by decide) ?_
  show pm_J mX12_wanders 1 21 LAYM none LAYM ρ 0 [some (pv_r 0), some (pv_i x1), none, none] [] LAYM σ
  unfold fX12_wanders at h
  refine pr_aload_n dX12_wanders_0 rfl ?_
  refine pr_getR dX12_wanders_1 lk_X12_46 lm_0 rfl ?_
  refine pr_iload_n dX12_wanders_4 rfl ?_
  obtain ⟨g_1, h⟩ := pm_gs h
  refine pr_iald dX12_wanders_5 lm_13 rfl g_1 ?_
  refine pr_bipush dX12_wanders_6 (by decide) ?_
  refine pr_idiv dX12_wanders_8 rfl (wr_eq (by decide) (by decide)) (by decide) ?_
  refine pr_istore_n dX12_wanders_9 (by decide) rfl ?_
  refine pr_aload_n dX12_wanders_10 rfl ?_
  refine pr_getR dX12_wanders_11 lk_X12_46 lm_0 rfl ?_
  refine pr_iload_n dX12_wanders_14 rfl ?_
  obtain ⟨g_2, h⟩ := pm_gs h
  refine pr_iald dX12_wanders_15 lm_13 rfl g_2 ?_
  refine pr_bipush dX12_wanders_16 (by decide) ?_
  refine pr_irem dX12_wanders_18 rfl (wr_eq (by decide) (by decide)) (by decide) ?_
  refine pr_if_eq (tgt := 23) dX12_wanders_19 rfl (by decide) (fun c_3 => ?_) (fun c_3 => ?_)
  · have h := pm_pos c_3 h
    refine pr_bipush dX12_wanders_23 (by decide) ?_
    refine pr_iload_n dX12_wanders_25 rfl ?_
    refine pr_imul dX12_wanders_26 ?_
    refine pr_iload_n dX12_wanders_27 rfl ?_
    refine pr_iload_n dX12_wanders_28 rfl ?_
    refine pr_iadd dX12_wanders_29 ?_
    refine pr_bipush dX12_wanders_30 (by decide) ?_
    refine pr_irem dX12_wanders_32 rfl (wr_eq (by decide) (by decide)) (by decide) ?_
    refine pr_iadd dX12_wanders_33 ?_
    refine pr_istore_n dX12_wanders_34 (by decide) rfl ?_
    refine pr_aload_n dX12_wanders_35 rfl ?_
    refine pr_getR dX12_wanders_36 lk_X12_43 lm_0 rfl ?_
    refine pr_iload_n dX12_wanders_39 rfl ?_
    refine pr_iconst dX12_wanders_40 ?_
    refine pr_bipush dX12_wanders_41 (by decide) ?_
    refine pr_aload_n dX12_wanders_43 rfl ?_
    refine pr_getR dX12_wanders_44 lk_X12_43 lm_0 rfl ?_
    refine pr_iload_n dX12_wanders_47 rfl ?_
    obtain ⟨g_4, h⟩ := pm_gs h
    refine pr_iald dX12_wanders_48 lm_12 rfl g_4 ?_
    refine pr_iload_n dX12_wanders_49 rfl ?_
    refine pr_bipush dX12_wanders_50 (by decide) ?_
    refine pr_idiv dX12_wanders_52 rfl (wr_eq (by decide) (by decide)) (by decide) ?_
    refine pr_iconst dX12_wanders_53 ?_
    refine pr_irem dX12_wanders_54 rfl (wr_eq (by decide) (by decide)) (by decide) ?_
    refine pr_if_ne (tgt := 62) dX12_wanders_55 rfl (by decide) (fun c_5 => ?_) (fun c_5 => ?_)
    · have h := pm_ng c_5 h
      refine pr_iconst dX12_wanders_62 ?_
      refine pr_iadd dX12_wanders_63 ?_
      obtain ⟨q6, e7, h⟩ := pm_bs h
      refine pr_callS (av := [pv_i 99, pv_i ((σ 12 (Int.toNat (wr ((6 * x1) + (Int.tmod (wr ((Int.tdiv (wr (σ 13 (Int.toNat (wr x1)))) 50) + x1)) 6))))) + (-1))]) (S := [pv_i 0, pv_i ((6 * x1) + (Int.tmod (wr ((Int.tdiv (wr (σ 13 (Int.toNat (wr x1)))) 50) + x1)) 6)), pv_r 12]) dX12_wanders_64 mk_X12_124 rfl rfl (by decide) (by decide) (by decide) (Or.inl rfl) (tmJ9_min_7cf53 e7) ?_
      obtain ⟨q8, e9, h⟩ := pm_bs h
      refine pr_callS (av := [pv_i 0, pv_i q6]) (S := [pv_i ((6 * x1) + (Int.tmod (wr ((Int.tdiv (wr (σ 13 (Int.toNat (wr x1)))) 50) + x1)) 6)), pv_r 12]) dX12_wanders_67 mk_X12_141 rfl rfl (by decide) (by decide) (by decide) (Or.inl rfl) (tmJ9_max_7cf53 e9) ?_
      obtain ⟨g_10, h⟩ := pm_gs h
      refine pr_iast dX12_wanders_70 lm_12 rfl g_10 ?_
      have h := Option.some.inj h
      subst h
      exact pr_vret dX12_wanders_71 rfl
    · have h := pm_pos c_5 h
      refine pr_iconst dX12_wanders_58 ?_
      refine pr_goto (tgt := 63) dX12_wanders_59 (by decide) ?_
      refine pr_iadd dX12_wanders_63 ?_
      obtain ⟨q11, e12, h⟩ := pm_bs h
      refine pr_callS (av := [pv_i 99, pv_i ((σ 12 (Int.toNat (wr ((6 * x1) + (Int.tmod (wr ((Int.tdiv (wr (σ 13 (Int.toNat (wr x1)))) 50) + x1)) 6))))) + 1)]) (S := [pv_i 0, pv_i ((6 * x1) + (Int.tmod (wr ((Int.tdiv (wr (σ 13 (Int.toNat (wr x1)))) 50) + x1)) 6)), pv_r 12]) dX12_wanders_64 mk_X12_124 rfl rfl (by decide) (by decide) (by decide) (Or.inl rfl) (tmJ9_min_7cf53 e12) ?_
      obtain ⟨q13, e14, h⟩ := pm_bs h
      refine pr_callS (av := [pv_i 0, pv_i q11]) (S := [pv_i ((6 * x1) + (Int.tmod (wr ((Int.tdiv (wr (σ 13 (Int.toNat (wr x1)))) 50) + x1)) 6)), pv_r 12]) dX12_wanders_67 mk_X12_141 rfl rfl (by decide) (by decide) (by decide) (Or.inl rfl) (tmJ9_max_7cf53 e14) ?_
      obtain ⟨g_15, h⟩ := pm_gs h
      refine pr_iast dX12_wanders_70 lm_12 rfl g_15 ?_
      have h := Option.some.inj h
      subst h
      exact pr_vret dX12_wanders_71 rfl
  · have h := pm_ng c_3 h
    have h := Option.some.inj h
    subst h
    exact pr_vret dX12_wanders_22 rfl
def bdX12_sheet_275 (y1 : Int) (y5 : Int) (z6 : Int) (σ : pm_M) : Option ((Int × pm_M) ⊕ (Int × pm_M)) :=
  if 360 ≤ (wr z6) then (some (.inl (z6, σ))) else (if (wr (σ 0 32)) = 0 then (pm_g (0 ≤ (wr ((360 * y1) + z6)) ∧ (wr ((360 * y1) + z6)) < 1080) (pm_g (0 ≤ (wr ((360 * y5) + z6)) ∧ (wr ((360 * y5) + z6)) < 28800) (some (.inr ((z6 + 1), (pm_up σ 22 (Int.toNat (wr ((360 * y5) + z6))) (σ 23 (Int.toNat (wr ((360 * y1) + z6)))))))))) else (some (.inl (z6, σ))))
set_option maxHeartbeats 4000000 in
set_option maxRecDepth 100000 in
theorem tbX12_sheet_275 {lay0 lay' : List pm_S} {r : Option pm_V} {σ' : pm_M} (y1 : Int) (y5 : Int) : ∀ (a : Int × pm_M) (e : (Int × pm_M) ⊕ (Int × pm_M)), (fun a => bdX12_sheet_275 y1 y5 a.1 a.2) a = some e → (∀ a, e = .inr a → (fun a => pm_J mX12_sheet 2 44 lay0 r lay' σ' 275 [some (pv_r 0), some (pv_i y1), none, none, none, some (pv_i y5), some (pv_i a.1)] [] LAYM a.2) a) → (∀ a, e = .inl a → (fun a => pm_J mX12_sheet 2 44 lay0 r lay' σ' 323 [none, none, none, none, none, none, none] [] LAYM a.2) a) → (fun a => pm_J mX12_sheet 2 44 lay0 r lay' σ' 275 [some (pv_r 0), some (pv_i y1), none, none, none, some (pv_i y5), some (pv_i a.1)] [] LAYM a.2) a := by
  intro a e h hc hx
  obtain ⟨z6, σ⟩ := a
  have h : bdX12_sheet_275 y1 y5 z6 σ = some e := h
  unfold bdX12_sheet_275 at h
  show pm_J mX12_sheet 2 44 lay0 r lay' σ' 275 [some (pv_r 0), some (pv_i y1), none, none, none, some (pv_i y5), some (pv_i z6)] [] LAYM σ
  refine pr_iload dX12_sheet_275 rfl ?_
  refine pr_sipush dX12_sheet_277 (by decide) ?_
  refine pr_icmp_ge (tgt := 323) dX12_sheet_280 rfl (wr_eq (by decide) (by decide)) (by decide) (fun c_29 => ?_) (fun c_29 => ?_)
  · have h := pm_pos c_29 h
    refine pr_weak (L2 := [none, none, none, none, none, none, none]) ⟨Or.inl rfl, Or.inl rfl, Or.inl rfl, Or.inl rfl, Or.inl rfl, Or.inl rfl, Or.inl rfl, trivial⟩ ?_
    exact hx _ (Option.some.inj h).symm
  · have h := pm_ng c_29 h
    refine pr_aload_n dX12_sheet_283 rfl ?_
    refine pr_getI dX12_sheet_284 lk_X12_176 lm_0 rfl ?_
    refine pr_if_ne (tgt := 323) dX12_sheet_287 rfl (by decide) (fun c_30 => ?_) (fun c_30 => ?_)
    · have h := pm_ng c_30 h
      refine pr_weak (L2 := [none, none, none, none, none, none, none]) ⟨Or.inl rfl, Or.inl rfl, Or.inl rfl, Or.inl rfl, Or.inl rfl, Or.inl rfl, Or.inl rfl, trivial⟩ ?_
      exact hx _ (Option.some.inj h).symm
    · have h := pm_pos c_30 h
      refine pr_aload_n dX12_sheet_290 rfl ?_
      refine pr_getR dX12_sheet_291 lk_X12_77 lm_0 rfl ?_
      refine pr_sipush dX12_sheet_294 (by decide) ?_
      refine pr_iload dX12_sheet_297 rfl ?_
      refine pr_imul dX12_sheet_299 ?_
      refine pr_iload dX12_sheet_300 rfl ?_
      refine pr_iadd dX12_sheet_302 ?_
      refine pr_aload_n dX12_sheet_303 rfl ?_
      refine pr_getR dX12_sheet_304 lk_X12_80 lm_0 rfl ?_
      refine pr_sipush dX12_sheet_307 (by decide) ?_
      refine pr_iload_n dX12_sheet_310 rfl ?_
      refine pr_imul dX12_sheet_311 ?_
      refine pr_iload dX12_sheet_312 rfl ?_
      refine pr_iadd dX12_sheet_314 ?_
      obtain ⟨g_31, h⟩ := pm_gs h
      refine pr_iald dX12_sheet_315 lm_23 rfl g_31 ?_
      obtain ⟨g_32, h⟩ := pm_gs h
      refine pr_iast dX12_sheet_316 lm_22 rfl g_32 ?_
      refine pr_iinc dX12_sheet_317 rfl (by decide) rfl ?_
      refine pr_goto (tgt := 275) dX12_sheet_320 (by decide) ?_
      refine pr_weak (L2 := [some (pv_r 0), some (pv_i y1), none, none, none, some (pv_i y5), some (pv_i (z6 + 1))]) ⟨Or.inr rfl, Or.inr rfl, Or.inl rfl, Or.inl rfl, Or.inl rfl, Or.inr rfl, Or.inr rfl, trivial⟩ ?_
      exact hc _ (Option.some.inj h).symm
def jnX12_sheet_121 (w1 : Int) (w2 : Int) (w3 : Int) (σ : pm_M) : Option (pm_M) :=
  pm_g (0 ≤ (wr (105 + (2 * w1))) ∧ (wr (105 + (2 * w1))) < 755) (pm_g (0 ≤ (wr (105 + (2 * w1))) ∧ (wr (105 + (2 * w1))) < 755) (if 60 ≤ (wr (w3 + 1)) then (pm_g (0 ≤ (wr (105 + (2 * w1))) ∧ (wr (105 + (2 * w1))) < 755) ((fX12_put ((pm_up (pm_up (pm_up σ 25 (Int.toNat 753) ((σ 25 (Int.toNat 753)) + 1)) 25 (Int.toNat (wr (105 + (2 * w1)))) (((pm_up σ 25 (Int.toNat 753) ((σ 25 (Int.toNat 753)) + 1)) 25 (Int.toNat (wr (105 + (2 * w1))))) + 1)) 25 (Int.toNat (wr (105 + (2 * w1)))) 0) 25 (Int.toNat 752)) 0 0 (pm_up (pm_up (pm_up (pm_up σ 25 (Int.toNat 753) ((σ 25 (Int.toNat 753)) + 1)) 25 (Int.toNat (wr (105 + (2 * w1)))) (((pm_up σ 25 (Int.toNat 753) ((σ 25 (Int.toNat 753)) + 1)) 25 (Int.toNat (wr (105 + (2 * w1))))) + 1)) 25 (Int.toNat (wr (105 + (2 * w1)))) 0) 25 (Int.toNat 752) (((pm_up (pm_up (pm_up σ 25 (Int.toNat 753) ((σ 25 (Int.toNat 753)) + 1)) 25 (Int.toNat (wr (105 + (2 * w1)))) (((pm_up σ 25 (Int.toNat 753) ((σ 25 (Int.toNat 753)) + 1)) 25 (Int.toNat (wr (105 + (2 * w1))))) + 1)) 25 (Int.toNat (wr (105 + (2 * w1)))) 0) 25 (Int.toNat 752)) + 1))).bind fun q12 => (fX12_put ((pm_up (pm_up (pm_up σ 25 (Int.toNat 753) ((σ 25 (Int.toNat 753)) + 1)) 25 (Int.toNat (wr (105 + (2 * w1)))) (((pm_up σ 25 (Int.toNat 753) ((σ 25 (Int.toNat 753)) + 1)) 25 (Int.toNat (wr (105 + (2 * w1))))) + 1)) 25 (Int.toNat (wr (105 + (2 * w1)))) 0) 25 (Int.toNat 752)) 1 w2 q12).bind fun q14 => pm_g (0 ≤ (wr w1) ∧ (wr w1) < 3) ((fX12_put ((pm_up (pm_up (pm_up σ 25 (Int.toNat 753) ((σ 25 (Int.toNat 753)) + 1)) 25 (Int.toNat (wr (105 + (2 * w1)))) (((pm_up σ 25 (Int.toNat 753) ((σ 25 (Int.toNat 753)) + 1)) 25 (Int.toNat (wr (105 + (2 * w1))))) + 1)) 25 (Int.toNat (wr (105 + (2 * w1)))) 0) 25 (Int.toNat 752)) 2 (q14 15 (Int.toNat (wr w1))) q14).bind fun q17 => (fX12_put ((pm_up (pm_up (pm_up σ 25 (Int.toNat 753) ((σ 25 (Int.toNat 753)) + 1)) 25 (Int.toNat (wr (105 + (2 * w1)))) (((pm_up σ 25 (Int.toNat 753) ((σ 25 (Int.toNat 753)) + 1)) 25 (Int.toNat (wr (105 + (2 * w1))))) + 1)) 25 (Int.toNat (wr (105 + (2 * w1)))) 0) 25 (Int.toNat 752)) 3 (q17 25 (Int.toNat 751)) q17).bind fun q19 => (fX12_put ((pm_up (pm_up (pm_up σ 25 (Int.toNat 753) ((σ 25 (Int.toNat 753)) + 1)) 25 (Int.toNat (wr (105 + (2 * w1)))) (((pm_up σ 25 (Int.toNat 753) ((σ 25 (Int.toNat 753)) + 1)) 25 (Int.toNat (wr (105 + (2 * w1))))) + 1)) 25 (Int.toNat (wr (105 + (2 * w1)))) 0) 25 (Int.toNat 752)) 4 (-9) q19).bind fun q21 => (fX12_put ((pm_up (pm_up (pm_up σ 25 (Int.toNat 753) ((σ 25 (Int.toNat 753)) + 1)) 25 (Int.toNat (wr (105 + (2 * w1)))) (((pm_up σ 25 (Int.toNat 753) ((σ 25 (Int.toNat 753)) + 1)) 25 (Int.toNat (wr (105 + (2 * w1))))) + 1)) 25 (Int.toNat (wr (105 + (2 * w1)))) 0) 25 (Int.toNat 752)) 5 0 q21).bind fun q23 => (fX12_put ((pm_up (pm_up (pm_up σ 25 (Int.toNat 753) ((σ 25 (Int.toNat 753)) + 1)) 25 (Int.toNat (wr (105 + (2 * w1)))) (((pm_up σ 25 (Int.toNat 753) ((σ 25 (Int.toNat 753)) + 1)) 25 (Int.toNat (wr (105 + (2 * w1))))) + 1)) 25 (Int.toNat (wr (105 + (2 * w1)))) 0) 25 (Int.toNat 752)) 6 (-9) q23).bind fun q25 => (fX12_put ((pm_up (pm_up (pm_up σ 25 (Int.toNat 753) ((σ 25 (Int.toNat 753)) + 1)) 25 (Int.toNat (wr (105 + (2 * w1)))) (((pm_up σ 25 (Int.toNat 753) ((σ 25 (Int.toNat 753)) + 1)) 25 (Int.toNat (wr (105 + (2 * w1))))) + 1)) 25 (Int.toNat (wr (105 + (2 * w1)))) 0) 25 (Int.toNat 752)) 7 (-9) q25).bind fun q27 => (pm_it (fun a => bdX12_sheet_275 w1 ((pm_up (pm_up (pm_up σ 25 (Int.toNat 753) ((σ 25 (Int.toNat 753)) + 1)) 25 (Int.toNat (wr (105 + (2 * w1)))) (((pm_up σ 25 (Int.toNat 753) ((σ 25 (Int.toNat 753)) + 1)) 25 (Int.toNat (wr (105 + (2 * w1))))) + 1)) 25 (Int.toNat (wr (105 + (2 * w1)))) 0) 25 (Int.toNat 752)) a.1 a.2) pm_fuel (0, q27)).bind fun v33 => some v33.2))) else (some (pm_up (pm_up σ 25 (Int.toNat 753) ((σ 25 (Int.toNat 753)) + 1)) 25 (Int.toNat (wr (105 + (2 * w1)))) (((pm_up σ 25 (Int.toNat 753) ((σ 25 (Int.toNat 753)) + 1)) 25 (Int.toNat (wr (105 + (2 * w1))))) + 1)))))
set_option maxHeartbeats 4000000 in
set_option maxRecDepth 100000 in
theorem tjX12_sheet_121 {lay0 : List pm_S} {w1 : Int} {w2 : Int} {w3 : Int} {σ : pm_M} {ρ : pm_M} (h : jnX12_sheet_121 w1 w2 w3 σ = some ρ) : pm_J mX12_sheet 2 44 lay0 none LAYM ρ 121 [some (pv_r 0), some (pv_i w1), some (pv_i w2), some (pv_i w3), none, none, none] [] LAYM σ := by
  unfold jnX12_sheet_121 at h
  refine pr_aload_n dX12_sheet_121 rfl ?_
  refine pr_getR dX12_sheet_122 lk_X12_86 lm_0 rfl ?_
  refine pr_sipush dX12_sheet_125 (by decide) ?_
  refine pr_dup2 dX12_sheet_128 rfl rfl ?_
  refine pr_iald dX12_sheet_129 lm_25 (wr_eq (by decide) (by decide)) ⟨by decide, by decide⟩ ?_
  refine pr_iconst dX12_sheet_130 ?_
  refine pr_iadd dX12_sheet_131 ?_
  refine pr_iast dX12_sheet_132 lm_25 (wr_eq (by decide) (by decide)) ⟨by decide, by decide⟩ ?_
  refine pr_aload_n dX12_sheet_133 rfl ?_
  refine pr_getR dX12_sheet_134 lk_X12_86 lm_0 rfl ?_
  refine pr_bipush dX12_sheet_137 (by decide) ?_
  refine pr_iconst dX12_sheet_139 ?_
  refine pr_iload_n dX12_sheet_140 rfl ?_
  refine pr_imul dX12_sheet_141 ?_
  refine pr_iadd dX12_sheet_142 ?_
  refine pr_dup2 dX12_sheet_143 rfl rfl ?_
  obtain ⟨g_8, h⟩ := pm_gs h
  refine pr_iald dX12_sheet_144 lm_25 rfl g_8 ?_
  refine pr_iconst dX12_sheet_145 ?_
  refine pr_iadd dX12_sheet_146 ?_
  obtain ⟨g_9, h⟩ := pm_gs h
  refine pr_iast dX12_sheet_147 lm_25 rfl g_9 ?_
  refine pr_iload_n dX12_sheet_148 rfl ?_
  refine pr_iconst dX12_sheet_149 ?_
  refine pr_iadd dX12_sheet_150 ?_
  refine pr_bipush dX12_sheet_151 (by decide) ?_
  refine pr_icmp_ge (tgt := 157) dX12_sheet_153 rfl (wr_eq (by decide) (by decide)) (by decide) (fun c_10 => ?_) (fun c_10 => ?_)
  · have h := pm_pos c_10 h
    refine pr_aload_n dX12_sheet_157 rfl ?_
    refine pr_getR dX12_sheet_158 lk_X12_86 lm_0 rfl ?_
    refine pr_bipush dX12_sheet_161 (by decide) ?_
    refine pr_iconst dX12_sheet_163 ?_
    refine pr_iload_n dX12_sheet_164 rfl ?_
    refine pr_imul dX12_sheet_165 ?_
    refine pr_iadd dX12_sheet_166 ?_
    refine pr_iconst dX12_sheet_167 ?_
    obtain ⟨g_11, h⟩ := pm_gs h
    refine pr_iast dX12_sheet_168 lm_25 rfl g_11 ?_
    refine pr_aload_n dX12_sheet_169 rfl ?_
    refine pr_getR dX12_sheet_170 lk_X12_86 lm_0 rfl ?_
    refine pr_sipush dX12_sheet_173 (by decide) ?_
    refine pr_iald dX12_sheet_176 lm_25 (wr_eq (by decide) (by decide)) ⟨by decide, by decide⟩ ?_
    refine pr_istore dX12_sheet_177 (by decide) rfl ?_
    refine pr_aload_n dX12_sheet_179 rfl ?_
    refine pr_getR dX12_sheet_180 lk_X12_86 lm_0 rfl ?_
    refine pr_sipush dX12_sheet_183 (by decide) ?_
    refine pr_dup2 dX12_sheet_186 rfl rfl ?_
    refine pr_iald dX12_sheet_187 lm_25 (wr_eq (by decide) (by decide)) ⟨by decide, by decide⟩ ?_
    refine pr_iconst dX12_sheet_188 ?_
    refine pr_iadd dX12_sheet_189 ?_
    refine pr_iast dX12_sheet_190 lm_25 (wr_eq (by decide) (by decide)) ⟨by decide, by decide⟩ ?_
    refine pr_aload_n dX12_sheet_191 rfl ?_
    refine pr_iload dX12_sheet_192 rfl ?_
    refine pr_iconst dX12_sheet_194 ?_
    refine pr_iconst dX12_sheet_195 ?_
    obtain ⟨q12, e13, h⟩ := pm_bs h
    refine pr_callV (As := [pv_i ((pm_up (pm_up (pm_up σ 25 (Int.toNat 753) ((σ 25 (Int.toNat 753)) + 1)) 25 (Int.toNat (wr (105 + (2 * w1)))) (((pm_up σ 25 (Int.toNat 753) ((σ 25 (Int.toNat 753)) + 1)) 25 (Int.toNat (wr (105 + (2 * w1))))) + 1)) 25 (Int.toNat (wr (105 + (2 * w1)))) 0) 25 (Int.toNat 752)), pv_i 0, pv_i 0]) (S := []) (t := 0) dX12_sheet_196 mk_X12_144 lm_0 (ci := 12) (q := (RX12, TX12, 36)) rfl rfl rfl rfl (by decide) (by decide) (by decide) (Or.inl rfl) (tmX12_put e13) ?_
    refine pr_aload_n dX12_sheet_199 rfl ?_
    refine pr_iload dX12_sheet_200 rfl ?_
    refine pr_iconst dX12_sheet_202 ?_
    refine pr_iload_n dX12_sheet_203 rfl ?_
    obtain ⟨q14, e15, h⟩ := pm_bs h
    refine pr_callV (As := [pv_i ((pm_up (pm_up (pm_up σ 25 (Int.toNat 753) ((σ 25 (Int.toNat 753)) + 1)) 25 (Int.toNat (wr (105 + (2 * w1)))) (((pm_up σ 25 (Int.toNat 753) ((σ 25 (Int.toNat 753)) + 1)) 25 (Int.toNat (wr (105 + (2 * w1))))) + 1)) 25 (Int.toNat (wr (105 + (2 * w1)))) 0) 25 (Int.toNat 752)), pv_i 1, pv_i w2]) (S := []) (t := 0) dX12_sheet_204 mk_X12_144 lm_0 (ci := 12) (q := (RX12, TX12, 36)) rfl rfl rfl rfl (by decide) (by decide) (by decide) (Or.inl rfl) (tmX12_put e15) ?_
    refine pr_aload_n dX12_sheet_207 rfl ?_
    refine pr_iload dX12_sheet_208 rfl ?_
    refine pr_iconst dX12_sheet_210 ?_
    refine pr_aload_n dX12_sheet_211 rfl ?_
    refine pr_getR dX12_sheet_212 lk_X12_52 lm_0 rfl ?_
    refine pr_iload_n dX12_sheet_215 rfl ?_
    obtain ⟨g_16, h⟩ := pm_gs h
    refine pr_iald dX12_sheet_216 lm_15 rfl g_16 ?_
    obtain ⟨q17, e18, h⟩ := pm_bs h
    refine pr_callV (As := [pv_i ((pm_up (pm_up (pm_up σ 25 (Int.toNat 753) ((σ 25 (Int.toNat 753)) + 1)) 25 (Int.toNat (wr (105 + (2 * w1)))) (((pm_up σ 25 (Int.toNat 753) ((σ 25 (Int.toNat 753)) + 1)) 25 (Int.toNat (wr (105 + (2 * w1))))) + 1)) 25 (Int.toNat (wr (105 + (2 * w1)))) 0) 25 (Int.toNat 752)), pv_i 2, pv_i (q14 15 (Int.toNat (wr w1)))]) (S := []) (t := 0) dX12_sheet_217 mk_X12_144 lm_0 (ci := 12) (q := (RX12, TX12, 36)) rfl rfl rfl rfl (by decide) (by decide) (by decide) (Or.inl rfl) (tmX12_put e18) ?_
    refine pr_aload_n dX12_sheet_220 rfl ?_
    refine pr_iload dX12_sheet_221 rfl ?_
    refine pr_iconst dX12_sheet_223 ?_
    refine pr_aload_n dX12_sheet_224 rfl ?_
    refine pr_getR dX12_sheet_225 lk_X12_86 lm_0 rfl ?_
    refine pr_sipush dX12_sheet_228 (by decide) ?_
    refine pr_iald dX12_sheet_231 lm_25 (wr_eq (by decide) (by decide)) ⟨by decide, by decide⟩ ?_
    obtain ⟨q19, e20, h⟩ := pm_bs h
    refine pr_callV (As := [pv_i ((pm_up (pm_up (pm_up σ 25 (Int.toNat 753) ((σ 25 (Int.toNat 753)) + 1)) 25 (Int.toNat (wr (105 + (2 * w1)))) (((pm_up σ 25 (Int.toNat 753) ((σ 25 (Int.toNat 753)) + 1)) 25 (Int.toNat (wr (105 + (2 * w1))))) + 1)) 25 (Int.toNat (wr (105 + (2 * w1)))) 0) 25 (Int.toNat 752)), pv_i 3, pv_i (q17 25 (Int.toNat 751))]) (S := []) (t := 0) dX12_sheet_232 mk_X12_144 lm_0 (ci := 12) (q := (RX12, TX12, 36)) rfl rfl rfl rfl (by decide) (by decide) (by decide) (Or.inl rfl) (tmX12_put e20) ?_
    refine pr_aload_n dX12_sheet_235 rfl ?_
    refine pr_iload dX12_sheet_236 rfl ?_
    refine pr_iconst dX12_sheet_238 ?_
    refine pr_bipush dX12_sheet_239 (by decide) ?_
    obtain ⟨q21, e22, h⟩ := pm_bs h
    refine pr_callV (As := [pv_i ((pm_up (pm_up (pm_up σ 25 (Int.toNat 753) ((σ 25 (Int.toNat 753)) + 1)) 25 (Int.toNat (wr (105 + (2 * w1)))) (((pm_up σ 25 (Int.toNat 753) ((σ 25 (Int.toNat 753)) + 1)) 25 (Int.toNat (wr (105 + (2 * w1))))) + 1)) 25 (Int.toNat (wr (105 + (2 * w1)))) 0) 25 (Int.toNat 752)), pv_i 4, pv_i (-9)]) (S := []) (t := 0) dX12_sheet_241 mk_X12_144 lm_0 (ci := 12) (q := (RX12, TX12, 36)) rfl rfl rfl rfl (by decide) (by decide) (by decide) (Or.inl rfl) (tmX12_put e22) ?_
    refine pr_aload_n dX12_sheet_244 rfl ?_
    refine pr_iload dX12_sheet_245 rfl ?_
    refine pr_iconst dX12_sheet_247 ?_
    refine pr_iconst dX12_sheet_248 ?_
    obtain ⟨q23, e24, h⟩ := pm_bs h
    refine pr_callV (As := [pv_i ((pm_up (pm_up (pm_up σ 25 (Int.toNat 753) ((σ 25 (Int.toNat 753)) + 1)) 25 (Int.toNat (wr (105 + (2 * w1)))) (((pm_up σ 25 (Int.toNat 753) ((σ 25 (Int.toNat 753)) + 1)) 25 (Int.toNat (wr (105 + (2 * w1))))) + 1)) 25 (Int.toNat (wr (105 + (2 * w1)))) 0) 25 (Int.toNat 752)), pv_i 5, pv_i 0]) (S := []) (t := 0) dX12_sheet_249 mk_X12_144 lm_0 (ci := 12) (q := (RX12, TX12, 36)) rfl rfl rfl rfl (by decide) (by decide) (by decide) (Or.inl rfl) (tmX12_put e24) ?_
    refine pr_aload_n dX12_sheet_252 rfl ?_
    refine pr_iload dX12_sheet_253 rfl ?_
    refine pr_bipush dX12_sheet_255 (by decide) ?_
    refine pr_bipush dX12_sheet_257 (by decide) ?_
    obtain ⟨q25, e26, h⟩ := pm_bs h
    refine pr_callV (As := [pv_i ((pm_up (pm_up (pm_up σ 25 (Int.toNat 753) ((σ 25 (Int.toNat 753)) + 1)) 25 (Int.toNat (wr (105 + (2 * w1)))) (((pm_up σ 25 (Int.toNat 753) ((σ 25 (Int.toNat 753)) + 1)) 25 (Int.toNat (wr (105 + (2 * w1))))) + 1)) 25 (Int.toNat (wr (105 + (2 * w1)))) 0) 25 (Int.toNat 752)), pv_i 6, pv_i (-9)]) (S := []) (t := 0) dX12_sheet_259 mk_X12_144 lm_0 (ci := 12) (q := (RX12, TX12, 36)) rfl rfl rfl rfl (by decide) (by decide) (by decide) (Or.inl rfl) (tmX12_put e26) ?_
    refine pr_aload_n dX12_sheet_262 rfl ?_
    refine pr_iload dX12_sheet_263 rfl ?_
    refine pr_bipush dX12_sheet_265 (by decide) ?_
    refine pr_bipush dX12_sheet_267 (by decide) ?_
    obtain ⟨q27, e28, h⟩ := pm_bs h
    refine pr_callV (As := [pv_i ((pm_up (pm_up (pm_up σ 25 (Int.toNat 753) ((σ 25 (Int.toNat 753)) + 1)) 25 (Int.toNat (wr (105 + (2 * w1)))) (((pm_up σ 25 (Int.toNat 753) ((σ 25 (Int.toNat 753)) + 1)) 25 (Int.toNat (wr (105 + (2 * w1))))) + 1)) 25 (Int.toNat (wr (105 + (2 * w1)))) 0) 25 (Int.toNat 752)), pv_i 7, pv_i (-9)]) (S := []) (t := 0) dX12_sheet_269 mk_X12_144 lm_0 (ci := 12) (q := (RX12, TX12, 36)) rfl rfl rfl rfl (by decide) (by decide) (by decide) (Or.inl rfl) (tmX12_put e28) ?_
    refine pr_iconst dX12_sheet_272 ?_
    refine pr_istore dX12_sheet_273 (by decide) rfl ?_
    obtain ⟨v33, e34, h⟩ := pm_bs h
    refine pr_weak (L2 := [some (pv_r 0), some (pv_i w1), none, none, none, some (pv_i ((pm_up (pm_up (pm_up σ 25 (Int.toNat 753) ((σ 25 (Int.toNat 753)) + 1)) 25 (Int.toNat (wr (105 + (2 * w1)))) (((pm_up σ 25 (Int.toNat 753) ((σ 25 (Int.toNat 753)) + 1)) 25 (Int.toNat (wr (105 + (2 * w1))))) + 1)) 25 (Int.toNat (wr (105 + (2 * w1)))) 0) 25 (Int.toNat 752))), some (pv_i 0)]) ⟨Or.inr rfl, Or.inr rfl, Or.inl rfl, Or.inl rfl, Or.inl rfl, Or.inr rfl, Or.inr rfl, trivial⟩ ?_
    refine pm_it_J (P := fun a => pm_J mX12_sheet 2 44 lay0 none LAYM ρ 275 [some (pv_r 0), some (pv_i w1), none, none, none, some (pv_i ((pm_up (pm_up (pm_up σ 25 (Int.toNat 753) ((σ 25 (Int.toNat 753)) + 1)) 25 (Int.toNat (wr (105 + (2 * w1)))) (((pm_up σ 25 (Int.toNat 753) ((σ 25 (Int.toNat 753)) + 1)) 25 (Int.toNat (wr (105 + (2 * w1))))) + 1)) 25 (Int.toNat (wr (105 + (2 * w1)))) 0) 25 (Int.toNat 752))), some (pv_i a.1)] [] LAYM a.2) (Rx := fun a => pm_J mX12_sheet 2 44 lay0 none LAYM ρ 323 [none, none, none, none, none, none, none] [] LAYM a.2) (tbX12_sheet_275 w1 ((pm_up (pm_up (pm_up σ 25 (Int.toNat 753) ((σ 25 (Int.toNat 753)) + 1)) 25 (Int.toNat (wr (105 + (2 * w1)))) (((pm_up σ 25 (Int.toNat 753) ((σ 25 (Int.toNat 753)) + 1)) 25 (Int.toNat (wr (105 + (2 * w1))))) + 1)) 25 (Int.toNat (wr (105 + (2 * w1)))) 0) 25 (Int.toNat 752))) _ _ _ e34 ?_
    show pm_J mX12_sheet 2 44 lay0 none LAYM ρ 323 [none, none, none, none, none, none, none] [] LAYM v33.2
    have h := Option.some.inj h
    subst h
    exact pr_vret dX12_sheet_323 rfl
  · have h := pm_ng c_10 h
    have h := Option.some.inj h
    subst h
    exact pr_vret dX12_sheet_156 rfl
def bdX12_sheet_61 (y1 : Int) (y2 : Int) (y3 : Int) (y4 : Int) (z5 : Int) (σ : pm_M) : Option ((Int × pm_M) ⊕ (Int × pm_M)) :=
  if 6 ≤ (wr z5) then (some (.inl (z5, σ))) else (pm_g (0 ≤ (wr ((6 * y4) + z5)) ∧ (wr ((6 * y4) + z5)) < 48) (pm_g (0 ≤ (wr ((6 * ((60 * y1) + y3)) + z5)) ∧ (wr ((6 * ((60 * y1) + y3)) + z5)) < 1080) (some (.inr ((z5 + 1), (pm_up σ 23 (Int.toNat (wr ((6 * ((60 * y1) + y3)) + z5))) (σ 12 (Int.toNat (wr ((6 * y4) + z5))))))))))
set_option maxHeartbeats 4000000 in
set_option maxRecDepth 100000 in
theorem tbX12_sheet_61 {lay0 lay' : List pm_S} {r : Option pm_V} {σ' : pm_M} (y1 : Int) (y2 : Int) (y3 : Int) (y4 : Int) : ∀ (a : Int × pm_M) (e : (Int × pm_M) ⊕ (Int × pm_M)), (fun a => bdX12_sheet_61 y1 y2 y3 y4 a.1 a.2) a = some e → (∀ a, e = .inr a → (fun a => pm_J mX12_sheet 2 44 lay0 r lay' σ' 61 [some (pv_r 0), some (pv_i y1), some (pv_i y2), some (pv_i y3), some (pv_i y4), some (pv_i a.1), none] [] LAYM a.2) a) → (∀ a, e = .inl a → (fun a => pm_J mX12_sheet 2 44 lay0 r lay' σ' 104 [some (pv_r 0), some (pv_i y1), some (pv_i y2), some (pv_i y3), some (pv_i y4), none, none] [] LAYM a.2) a) → (fun a => pm_J mX12_sheet 2 44 lay0 r lay' σ' 61 [some (pv_r 0), some (pv_i y1), some (pv_i y2), some (pv_i y3), some (pv_i y4), some (pv_i a.1), none] [] LAYM a.2) a := by
  intro a e h hc hx
  obtain ⟨z5, σ⟩ := a
  have h : bdX12_sheet_61 y1 y2 y3 y4 z5 σ = some e := h
  unfold bdX12_sheet_61 at h
  show pm_J mX12_sheet 2 44 lay0 r lay' σ' 61 [some (pv_r 0), some (pv_i y1), some (pv_i y2), some (pv_i y3), some (pv_i y4), some (pv_i z5), none] [] LAYM σ
  refine pr_iload dX12_sheet_61 rfl ?_
  refine pr_bipush dX12_sheet_63 (by decide) ?_
  refine pr_icmp_ge (tgt := 104) dX12_sheet_65 rfl (wr_eq (by decide) (by decide)) (by decide) (fun c_35 => ?_) (fun c_35 => ?_)
  · have h := pm_pos c_35 h
    refine pr_weak (L2 := [some (pv_r 0), some (pv_i y1), some (pv_i y2), some (pv_i y3), some (pv_i y4), none, none]) ⟨Or.inr rfl, Or.inr rfl, Or.inr rfl, Or.inr rfl, Or.inr rfl, Or.inl rfl, Or.inl rfl, trivial⟩ ?_
    exact hx _ (Option.some.inj h).symm
  · have h := pm_ng c_35 h
    refine pr_aload_n dX12_sheet_68 rfl ?_
    refine pr_getR dX12_sheet_69 lk_X12_80 lm_0 rfl ?_
    refine pr_bipush dX12_sheet_72 (by decide) ?_
    refine pr_bipush dX12_sheet_74 (by decide) ?_
    refine pr_iload_n dX12_sheet_76 rfl ?_
    refine pr_imul dX12_sheet_77 ?_
    refine pr_iload_n dX12_sheet_78 rfl ?_
    refine pr_iadd dX12_sheet_79 ?_
    refine pr_imul dX12_sheet_80 ?_
    refine pr_iload dX12_sheet_81 rfl ?_
    refine pr_iadd dX12_sheet_83 ?_
    refine pr_aload_n dX12_sheet_84 rfl ?_
    refine pr_getR dX12_sheet_85 lk_X12_43 lm_0 rfl ?_
    refine pr_bipush dX12_sheet_88 (by decide) ?_
    refine pr_iload dX12_sheet_90 rfl ?_
    refine pr_imul dX12_sheet_92 ?_
    refine pr_iload dX12_sheet_93 rfl ?_
    refine pr_iadd dX12_sheet_95 ?_
    obtain ⟨g_36, h⟩ := pm_gs h
    refine pr_iald dX12_sheet_96 lm_12 rfl g_36 ?_
    obtain ⟨g_37, h⟩ := pm_gs h
    refine pr_iast dX12_sheet_97 lm_23 rfl g_37 ?_
    refine pr_iinc dX12_sheet_98 rfl (by decide) rfl ?_
    refine pr_goto (tgt := 61) dX12_sheet_101 (by decide) ?_
    refine pr_weak (L2 := [some (pv_r 0), some (pv_i y1), some (pv_i y2), some (pv_i y3), some (pv_i y4), some (pv_i (z5 + 1)), none]) ⟨Or.inr rfl, Or.inr rfl, Or.inr rfl, Or.inr rfl, Or.inr rfl, Or.inr rfl, Or.inl rfl, trivial⟩ ?_
    exact hc _ (Option.some.inj h).symm
def fX12_sheet (x1 : Int) (σ : pm_M) : Option (pm_M) :=
  pm_g (0 ≤ (wr x1) ∧ (wr x1) < 3) (pm_g (0 ≤ (wr x1) ∧ (wr x1) < 3) (pm_g (0 ≤ (wr (96 + (σ 15 (Int.toNat (wr x1))))) ∧ (wr (96 + (σ 15 (Int.toNat (wr x1))))) < 755) (pm_g (0 ≤ (wr (σ 14 (Int.toNat (wr x1)))) ∧ (wr (σ 14 (Int.toNat (wr x1)))) < 4) (pm_g (0 ≤ (wr (96 + (σ 15 (Int.toNat (wr x1))))) ∧ (wr (96 + (σ 15 (Int.toNat (wr x1))))) < 755) (pm_g (0 ≤ (wr (105 + (2 * x1))) ∧ (wr (105 + (2 * x1))) < 755) (if (wr ((pm_up σ 25 (Int.toNat (wr (96 + (σ 15 (Int.toNat (wr x1)))))) ((σ 25 (Int.toNat (wr (96 + (σ 15 (Int.toNat (wr x1))))))) - (σ 11 (Int.toNat (wr (σ 14 (Int.toNat (wr x1)))))))) 0 32)) = 0 then ((pm_it (fun a => bdX12_sheet_61 x1 (σ 14 (Int.toNat (wr x1))) ((pm_up σ 25 (Int.toNat (wr (96 + (σ 15 (Int.toNat (wr x1)))))) ((σ 25 (Int.toNat (wr (96 + (σ 15 (Int.toNat (wr x1))))))) - (σ 11 (Int.toNat (wr (σ 14 (Int.toNat (wr x1)))))))) 25 (Int.toNat (wr (105 + (2 * x1))))) ((2 * (σ 14 (Int.toNat (wr x1)))) + (Int.tmod (wr ((pm_up σ 25 (Int.toNat (wr (96 + (σ 15 (Int.toNat (wr x1)))))) ((σ 25 (Int.toNat (wr (96 + (σ 15 (Int.toNat (wr x1))))))) - (σ 11 (Int.toNat (wr (σ 14 (Int.toNat (wr x1)))))))) 25 (Int.toNat (wr (105 + (2 * x1)))))) 2)) a.1 a.2) pm_fuel (0, (pm_up σ 25 (Int.toNat (wr (96 + (σ 15 (Int.toNat (wr x1)))))) ((σ 25 (Int.toNat (wr (96 + (σ 15 (Int.toNat (wr x1))))))) - (σ 11 (Int.toNat (wr (σ 14 (Int.toNat (wr x1)))))))))).bind fun v38 => pm_g (0 ≤ (wr ((2 * (σ 14 (Int.toNat (wr x1)))) + (Int.tmod (wr ((pm_up σ 25 (Int.toNat (wr (96 + (σ 15 (Int.toNat (wr x1)))))) ((σ 25 (Int.toNat (wr (96 + (σ 15 (Int.toNat (wr x1))))))) - (σ 11 (Int.toNat (wr (σ 14 (Int.toNat (wr x1)))))))) 25 (Int.toNat (wr (105 + (2 * x1)))))) 2))) ∧ (wr ((2 * (σ 14 (Int.toNat (wr x1)))) + (Int.tmod (wr ((pm_up σ 25 (Int.toNat (wr (96 + (σ 15 (Int.toNat (wr x1)))))) ((σ 25 (Int.toNat (wr (96 + (σ 15 (Int.toNat (wr x1))))))) - (σ 11 (Int.toNat (wr (σ 14 (Int.toNat (wr x1)))))))) 25 (Int.toNat (wr (105 + (2 * x1)))))) 2))) < 8) (pm_g (0 ≤ (wr ((2 * (σ 14 (Int.toNat (wr x1)))) + (Int.tmod (wr ((pm_up σ 25 (Int.toNat (wr (96 + (σ 15 (Int.toNat (wr x1)))))) ((σ 25 (Int.toNat (wr (96 + (σ 15 (Int.toNat (wr x1))))))) - (σ 11 (Int.toNat (wr (σ 14 (Int.toNat (wr x1)))))))) 25 (Int.toNat (wr (105 + (2 * x1)))))) 2))) ∧ (wr ((2 * (σ 14 (Int.toNat (wr x1)))) + (Int.tmod (wr ((pm_up σ 25 (Int.toNat (wr (96 + (σ 15 (Int.toNat (wr x1)))))) ((σ 25 (Int.toNat (wr (96 + (σ 15 (Int.toNat (wr x1))))))) - (σ 11 (Int.toNat (wr (σ 14 (Int.toNat (wr x1)))))))) 25 (Int.toNat (wr (105 + (2 * x1)))))) 2))) < 8) ((fX12_wanders ((2 * (σ 14 (Int.toNat (wr x1)))) + (Int.tmod (wr ((pm_up σ 25 (Int.toNat (wr (96 + (σ 15 (Int.toNat (wr x1)))))) ((σ 25 (Int.toNat (wr (96 + (σ 15 (Int.toNat (wr x1))))))) - (σ 11 (Int.toNat (wr (σ 14 (Int.toNat (wr x1)))))))) 25 (Int.toNat (wr (105 + (2 * x1)))))) 2)) (pm_up v38.2 13 (Int.toNat (wr ((2 * (σ 14 (Int.toNat (wr x1)))) + (Int.tmod (wr ((pm_up σ 25 (Int.toNat (wr (96 + (σ 15 (Int.toNat (wr x1)))))) ((σ 25 (Int.toNat (wr (96 + (σ 15 (Int.toNat (wr x1))))))) - (σ 11 (Int.toNat (wr (σ 14 (Int.toNat (wr x1)))))))) 25 (Int.toNat (wr (105 + (2 * x1)))))) 2)))) ((v38.2 13 (Int.toNat (wr ((2 * (σ 14 (Int.toNat (wr x1)))) + (Int.tmod (wr ((pm_up σ 25 (Int.toNat (wr (96 + (σ 15 (Int.toNat (wr x1)))))) ((σ 25 (Int.toNat (wr (96 + (σ 15 (Int.toNat (wr x1))))))) - (σ 11 (Int.toNat (wr (σ 14 (Int.toNat (wr x1)))))))) 25 (Int.toNat (wr (105 + (2 * x1)))))) 2))))) + 1))).bind fun q42 => jnX12_sheet_121 x1 (σ 14 (Int.toNat (wr x1))) ((pm_up σ 25 (Int.toNat (wr (96 + (σ 15 (Int.toNat (wr x1)))))) ((σ 25 (Int.toNat (wr (96 + (σ 15 (Int.toNat (wr x1))))))) - (σ 11 (Int.toNat (wr (σ 14 (Int.toNat (wr x1)))))))) 25 (Int.toNat (wr (105 + (2 * x1))))) q42))) else (jnX12_sheet_121 x1 (σ 14 (Int.toNat (wr x1))) ((pm_up σ 25 (Int.toNat (wr (96 + (σ 15 (Int.toNat (wr x1)))))) ((σ 25 (Int.toNat (wr (96 + (σ 15 (Int.toNat (wr x1))))))) - (σ 11 (Int.toNat (wr (σ 14 (Int.toNat (wr x1)))))))) 25 (Int.toNat (wr (105 + (2 * x1))))) (pm_up σ 25 (Int.toNat (wr (96 + (σ 15 (Int.toNat (wr x1)))))) ((σ 25 (Int.toNat (wr (96 + (σ 15 (Int.toNat (wr x1))))))) - (σ 11 (Int.toNat (wr (σ 14 (Int.toNat (wr x1)))))))))))))))
set_option maxHeartbeats 4000000 in
set_option maxRecDepth 100000 in
theorem tmX12_sheet {x1 : Int} {σ : pm_M} {ρ : pm_M} (h : fX12_sheet x1 σ = some ρ) : pm_C mX12_sheet 2 44 [pv_r 0, pv_i x1] LAYM σ none LAYM ρ := by
  refine pm_C.of rfl rfl (by decide) ?_
  show pm_J mX12_sheet 2 44 LAYM none LAYM ρ 0 [some (pv_r 0), some (pv_i x1), none, none, none, none, none] [] LAYM σ
  unfold fX12_sheet at h
  refine pr_aload_n dX12_sheet_0 rfl ?_
  refine pr_getR dX12_sheet_1 lk_X12_49 lm_0 rfl ?_
  refine pr_iload_n dX12_sheet_4 rfl ?_
  obtain ⟨g_1, h⟩ := pm_gs h
  refine pr_iald dX12_sheet_5 lm_14 rfl g_1 ?_
  refine pr_istore_n dX12_sheet_6 (by decide) rfl ?_
  refine pr_aload_n dX12_sheet_7 rfl ?_
  refine pr_getR dX12_sheet_8 lk_X12_86 lm_0 rfl ?_
  refine pr_bipush dX12_sheet_11 (by decide) ?_
  refine pr_aload_n dX12_sheet_13 rfl ?_
  refine pr_getR dX12_sheet_14 lk_X12_52 lm_0 rfl ?_
  refine pr_iload_n dX12_sheet_17 rfl ?_
  obtain ⟨g_2, h⟩ := pm_gs h
  refine pr_iald dX12_sheet_18 lm_15 rfl g_2 ?_
  refine pr_iadd dX12_sheet_19 ?_
  refine pr_dup2 dX12_sheet_20 rfl rfl ?_
  obtain ⟨g_3, h⟩ := pm_gs h
  refine pr_iald dX12_sheet_21 lm_25 rfl g_3 ?_
  refine pr_aload_n dX12_sheet_22 rfl ?_
  refine pr_getR dX12_sheet_23 lk_X12_40 lm_0 rfl ?_
  refine pr_iload_n dX12_sheet_26 rfl ?_
  obtain ⟨g_4, h⟩ := pm_gs h
  refine pr_iald dX12_sheet_27 lm_11 rfl g_4 ?_
  refine pr_isub dX12_sheet_28 ?_
  obtain ⟨g_5, h⟩ := pm_gs h
  refine pr_iast dX12_sheet_29 lm_25 rfl g_5 ?_
  refine pr_aload_n dX12_sheet_30 rfl ?_
  refine pr_getR dX12_sheet_31 lk_X12_86 lm_0 rfl ?_
  refine pr_bipush dX12_sheet_34 (by decide) ?_
  refine pr_iconst dX12_sheet_36 ?_
  refine pr_iload_n dX12_sheet_37 rfl ?_
  refine pr_imul dX12_sheet_38 ?_
  refine pr_iadd dX12_sheet_39 ?_
  obtain ⟨g_6, h⟩ := pm_gs h
  refine pr_iald dX12_sheet_40 lm_25 rfl g_6 ?_
  refine pr_istore_n dX12_sheet_41 (by decide) rfl ?_
  refine pr_iconst dX12_sheet_42 ?_
  refine pr_iload_n dX12_sheet_43 rfl ?_
  refine pr_imul dX12_sheet_44 ?_
  refine pr_iload_n dX12_sheet_45 rfl ?_
  refine pr_iconst dX12_sheet_46 ?_
  refine pr_irem dX12_sheet_47 rfl (wr_eq (by decide) (by decide)) (by decide) ?_
  refine pr_iadd dX12_sheet_48 ?_
  refine pr_istore dX12_sheet_49 (by decide) rfl ?_
  refine pr_aload_n dX12_sheet_51 rfl ?_
  refine pr_getI dX12_sheet_52 lk_X12_176 lm_0 rfl ?_
  refine pr_if_ne (tgt := 121) dX12_sheet_55 rfl (by decide) (fun c_7 => ?_) (fun c_7 => ?_)
  · have h := pm_ng c_7 h
    refine pr_weak (L2 := [some (pv_r 0), some (pv_i x1), some (pv_i (σ 14 (Int.toNat (wr x1)))), some (pv_i ((pm_up σ 25 (Int.toNat (wr (96 + (σ 15 (Int.toNat (wr x1)))))) ((σ 25 (Int.toNat (wr (96 + (σ 15 (Int.toNat (wr x1))))))) - (σ 11 (Int.toNat (wr (σ 14 (Int.toNat (wr x1)))))))) 25 (Int.toNat (wr (105 + (2 * x1)))))), none, none, none]) ⟨Or.inr rfl, Or.inr rfl, Or.inr rfl, Or.inr rfl, Or.inl rfl, Or.inl rfl, Or.inl rfl, trivial⟩ ?_
    exact tjX12_sheet_121 h
  · have h := pm_pos c_7 h
    refine pr_iconst dX12_sheet_58 ?_
    refine pr_istore dX12_sheet_59 (by decide) rfl ?_
    obtain ⟨v38, e39, h⟩ := pm_bs h
    refine pr_weak (L2 := [some (pv_r 0), some (pv_i x1), some (pv_i (σ 14 (Int.toNat (wr x1)))), some (pv_i ((pm_up σ 25 (Int.toNat (wr (96 + (σ 15 (Int.toNat (wr x1)))))) ((σ 25 (Int.toNat (wr (96 + (σ 15 (Int.toNat (wr x1))))))) - (σ 11 (Int.toNat (wr (σ 14 (Int.toNat (wr x1)))))))) 25 (Int.toNat (wr (105 + (2 * x1)))))), some (pv_i ((2 * (σ 14 (Int.toNat (wr x1)))) + (Int.tmod (wr ((pm_up σ 25 (Int.toNat (wr (96 + (σ 15 (Int.toNat (wr x1)))))) ((σ 25 (Int.toNat (wr (96 + (σ 15 (Int.toNat (wr x1))))))) - (σ 11 (Int.toNat (wr (σ 14 (Int.toNat (wr x1)))))))) 25 (Int.toNat (wr (105 + (2 * x1)))))) 2))), some (pv_i 0), none]) ⟨Or.inr rfl, Or.inr rfl, Or.inr rfl, Or.inr rfl, Or.inr rfl, Or.inr rfl, Or.inl rfl, trivial⟩ ?_
    refine pm_it_J (P := fun a => pm_J mX12_sheet 2 44 LAYM none LAYM ρ 61 [some (pv_r 0), some (pv_i x1), some (pv_i (σ 14 (Int.toNat (wr x1)))), some (pv_i ((pm_up σ 25 (Int.toNat (wr (96 + (σ 15 (Int.toNat (wr x1)))))) ((σ 25 (Int.toNat (wr (96 + (σ 15 (Int.toNat (wr x1))))))) - (σ 11 (Int.toNat (wr (σ 14 (Int.toNat (wr x1)))))))) 25 (Int.toNat (wr (105 + (2 * x1)))))), some (pv_i ((2 * (σ 14 (Int.toNat (wr x1)))) + (Int.tmod (wr ((pm_up σ 25 (Int.toNat (wr (96 + (σ 15 (Int.toNat (wr x1)))))) ((σ 25 (Int.toNat (wr (96 + (σ 15 (Int.toNat (wr x1))))))) - (σ 11 (Int.toNat (wr (σ 14 (Int.toNat (wr x1)))))))) 25 (Int.toNat (wr (105 + (2 * x1)))))) 2))), some (pv_i a.1), none] [] LAYM a.2) (Rx := fun a => pm_J mX12_sheet 2 44 LAYM none LAYM ρ 104 [some (pv_r 0), some (pv_i x1), some (pv_i (σ 14 (Int.toNat (wr x1)))), some (pv_i ((pm_up σ 25 (Int.toNat (wr (96 + (σ 15 (Int.toNat (wr x1)))))) ((σ 25 (Int.toNat (wr (96 + (σ 15 (Int.toNat (wr x1))))))) - (σ 11 (Int.toNat (wr (σ 14 (Int.toNat (wr x1)))))))) 25 (Int.toNat (wr (105 + (2 * x1)))))), some (pv_i ((2 * (σ 14 (Int.toNat (wr x1)))) + (Int.tmod (wr ((pm_up σ 25 (Int.toNat (wr (96 + (σ 15 (Int.toNat (wr x1)))))) ((σ 25 (Int.toNat (wr (96 + (σ 15 (Int.toNat (wr x1))))))) - (σ 11 (Int.toNat (wr (σ 14 (Int.toNat (wr x1)))))))) 25 (Int.toNat (wr (105 + (2 * x1)))))) 2))), none, none] [] LAYM a.2) (tbX12_sheet_61 x1 (σ 14 (Int.toNat (wr x1))) ((pm_up σ 25 (Int.toNat (wr (96 + (σ 15 (Int.toNat (wr x1)))))) ((σ 25 (Int.toNat (wr (96 + (σ 15 (Int.toNat (wr x1))))))) - (σ 11 (Int.toNat (wr (σ 14 (Int.toNat (wr x1)))))))) 25 (Int.toNat (wr (105 + (2 * x1))))) ((2 * (σ 14 (Int.toNat (wr x1)))) + (Int.tmod (wr ((pm_up σ 25 (Int.toNat (wr (96 + (σ 15 (Int.toNat (wr x1)))))) ((σ 25 (Int.toNat (wr (96 + (σ 15 (Int.toNat (wr x1))))))) - (σ 11 (Int.toNat (wr (σ 14 (Int.toNat (wr x1)))))))) 25 (Int.toNat (wr (105 + (2 * x1)))))) 2))) _ _ _ e39 ?_
    show pm_J mX12_sheet 2 44 LAYM none LAYM ρ 104 [some (pv_r 0), some (pv_i x1), some (pv_i (σ 14 (Int.toNat (wr x1)))), some (pv_i ((pm_up σ 25 (Int.toNat (wr (96 + (σ 15 (Int.toNat (wr x1)))))) ((σ 25 (Int.toNat (wr (96 + (σ 15 (Int.toNat (wr x1))))))) - (σ 11 (Int.toNat (wr (σ 14 (Int.toNat (wr x1)))))))) 25 (Int.toNat (wr (105 + (2 * x1)))))), some (pv_i ((2 * (σ 14 (Int.toNat (wr x1)))) + (Int.tmod (wr ((pm_up σ 25 (Int.toNat (wr (96 + (σ 15 (Int.toNat (wr x1)))))) ((σ 25 (Int.toNat (wr (96 + (σ 15 (Int.toNat (wr x1))))))) - (σ 11 (Int.toNat (wr (σ 14 (Int.toNat (wr x1)))))))) 25 (Int.toNat (wr (105 + (2 * x1)))))) 2))), none, none] [] LAYM v38.2
    refine pr_aload_n dX12_sheet_104 rfl ?_
    refine pr_getR dX12_sheet_105 lk_X12_46 lm_0 rfl ?_
    refine pr_iload dX12_sheet_108 rfl ?_
    refine pr_dup2 dX12_sheet_110 rfl rfl ?_
    obtain ⟨g_40, h⟩ := pm_gs h
    refine pr_iald dX12_sheet_111 lm_13 rfl g_40 ?_
    refine pr_iconst dX12_sheet_112 ?_
    refine pr_iadd dX12_sheet_113 ?_
    obtain ⟨g_41, h⟩ := pm_gs h
    refine pr_iast dX12_sheet_114 lm_13 rfl g_41 ?_
    refine pr_aload_n dX12_sheet_115 rfl ?_
    refine pr_iload dX12_sheet_116 rfl ?_
    obtain ⟨q42, e43, h⟩ := pm_bs h
    refine pr_callV (As := [pv_i ((2 * (σ 14 (Int.toNat (wr x1)))) + (Int.tmod (wr ((pm_up σ 25 (Int.toNat (wr (96 + (σ 15 (Int.toNat (wr x1)))))) ((σ 25 (Int.toNat (wr (96 + (σ 15 (Int.toNat (wr x1))))))) - (σ 11 (Int.toNat (wr (σ 14 (Int.toNat (wr x1)))))))) 25 (Int.toNat (wr (105 + (2 * x1)))))) 2))]) (S := []) (t := 0) dX12_sheet_118 mk_X12_180 lm_0 (ci := 12) (q := (RX12, TX12, 36)) rfl rfl rfl rfl (by decide) (by decide) (by decide) (Or.inl rfl) (tmX12_wanders e43) ?_
    refine pr_weak (L2 := [some (pv_r 0), some (pv_i x1), some (pv_i (σ 14 (Int.toNat (wr x1)))), some (pv_i ((pm_up σ 25 (Int.toNat (wr (96 + (σ 15 (Int.toNat (wr x1)))))) ((σ 25 (Int.toNat (wr (96 + (σ 15 (Int.toNat (wr x1))))))) - (σ 11 (Int.toNat (wr (σ 14 (Int.toNat (wr x1)))))))) 25 (Int.toNat (wr (105 + (2 * x1)))))), none, none, none]) ⟨Or.inr rfl, Or.inr rfl, Or.inr rfl, Or.inr rfl, Or.inl rfl, Or.inl rfl, Or.inl rfl, trivial⟩ ?_
    exact tjX12_sheet_121 h
def fX12_hasPulp (x1 : Int) (σ : pm_M) : Option (Int) :=
  if 80 ≤ (wr (σ 25 (Int.toNat 752))) then (some 0) else (pm_g (0 ≤ (wr x1) ∧ (wr x1) < 3) (pm_g (0 ≤ (wr (96 + (σ 15 (Int.toNat (wr x1))))) ∧ (wr (96 + (σ 15 (Int.toNat (wr x1))))) < 755) (pm_g (0 ≤ (wr x1) ∧ (wr x1) < 3) (pm_g (0 ≤ (wr (σ 14 (Int.toNat (wr x1)))) ∧ (wr (σ 14 (Int.toNat (wr x1)))) < 4) (if (wr (σ 25 (Int.toNat (wr (96 + (σ 15 (Int.toNat (wr x1)))))))) < (wr (σ 11 (Int.toNat (wr (σ 14 (Int.toNat (wr x1))))))) then (some 0) else (some 1))))))
set_option maxHeartbeats 4000000 in
set_option maxRecDepth 100000 in
theorem tmX12_hasPulp {x1 : Int} {σ : pm_M} {ρ : Int} (h : fX12_hasPulp x1 σ = some ρ) : pm_C mX12_hasPulp 0 0 [pv_r 0, pv_i x1] LAYM σ (some (pv_i ρ)) LAYM σ := by
  refine pm_C.of rfl rfl (by decide) ?_
  show pm_J mX12_hasPulp 0 0 LAYM (some (pv_i ρ)) LAYM σ 0 [some (pv_r 0), some (pv_i x1)] [] LAYM σ
  unfold fX12_hasPulp at h
  refine pr_aload_n dX12_hasPulp_0 rfl ?_
  refine pr_getR dX12_hasPulp_1 lk_X12_86 lm_0 rfl ?_
  refine pr_sipush dX12_hasPulp_4 (by decide) ?_
  refine pr_iald dX12_hasPulp_7 lm_25 (wr_eq (by decide) (by decide)) ⟨by decide, by decide⟩ ?_
  refine pr_bipush dX12_hasPulp_8 (by decide) ?_
  refine pr_icmp_ge (tgt := 45) dX12_hasPulp_10 rfl (wr_eq (by decide) (by decide)) (by decide) (fun c_1 => ?_) (fun c_1 => ?_)
  · have h := pm_pos c_1 h
    refine pr_iconst dX12_hasPulp_45 ?_
    have h := Option.some.inj h
    subst h
    exact pr_zret dX12_hasPulp_46 rfl (Or.inl rfl)
  · have h := pm_ng c_1 h
    refine pr_aload_n dX12_hasPulp_13 rfl ?_
    refine pr_getR dX12_hasPulp_14 lk_X12_86 lm_0 rfl ?_
    refine pr_bipush dX12_hasPulp_17 (by decide) ?_
    refine pr_aload_n dX12_hasPulp_19 rfl ?_
    refine pr_getR dX12_hasPulp_20 lk_X12_52 lm_0 rfl ?_
    refine pr_iload_n dX12_hasPulp_23 rfl ?_
    obtain ⟨g_2, h⟩ := pm_gs h
    refine pr_iald dX12_hasPulp_24 lm_15 rfl g_2 ?_
    refine pr_iadd dX12_hasPulp_25 ?_
    obtain ⟨g_3, h⟩ := pm_gs h
    refine pr_iald dX12_hasPulp_26 lm_25 rfl g_3 ?_
    refine pr_aload_n dX12_hasPulp_27 rfl ?_
    refine pr_getR dX12_hasPulp_28 lk_X12_40 lm_0 rfl ?_
    refine pr_aload_n dX12_hasPulp_31 rfl ?_
    refine pr_getR dX12_hasPulp_32 lk_X12_49 lm_0 rfl ?_
    refine pr_iload_n dX12_hasPulp_35 rfl ?_
    obtain ⟨g_4, h⟩ := pm_gs h
    refine pr_iald dX12_hasPulp_36 lm_14 rfl g_4 ?_
    obtain ⟨g_5, h⟩ := pm_gs h
    refine pr_iald dX12_hasPulp_37 lm_11 rfl g_5 ?_
    refine pr_icmp_lt (tgt := 45) dX12_hasPulp_38 rfl rfl (by decide) (fun c_6 => ?_) (fun c_6 => ?_)
    · have h := pm_pos c_6 h
      refine pr_iconst dX12_hasPulp_45 ?_
      have h := Option.some.inj h
      subst h
      exact pr_zret dX12_hasPulp_46 rfl (Or.inl rfl)
    · have h := pm_ng c_6 h
      refine pr_iconst dX12_hasPulp_41 ?_
      refine pr_goto (tgt := 46) dX12_hasPulp_42 (by decide) ?_
      have h := Option.some.inj h
      subst h
      exact pr_zret dX12_hasPulp_46 rfl (Or.inr rfl)
def bdX12_works_4 (z2 : Int) (z3 : Int) (σ : pm_M) : Option ((Int × Int × pm_M) ⊕ (Int × Int × pm_M)) :=
  if 4 ≤ (wr z3) then (some (.inl (z2, z3, σ))) else (pm_g (0 ≤ (wr (80 + (4 * z3))) ∧ (wr (80 + (4 * z3))) < 755) (if (wr (σ 25 (Int.toNat (wr (80 + (4 * z3)))))) = 0 then (some (.inr (z2, (z3 + 1), σ))) else (if 6 ≤ (wr z2) then (pm_g (0 ≤ (wr ((80 + (4 * z3)) + 2)) ∧ (wr ((80 + (4 * z3)) + 2)) < 755) (pm_g (0 ≤ (wr ((80 + (4 * z3)) + 2)) ∧ (wr ((80 + (4 * z3)) + 2)) < 755) (pm_g (0 ≤ (wr ((80 + (4 * z3)) + 2)) ∧ (wr ((80 + (4 * z3)) + 2)) < 755) (if (wr ((pm_up σ 25 (Int.toNat (wr ((80 + (4 * z3)) + 2))) ((σ 25 (Int.toNat (wr ((80 + (4 * z3)) + 2)))) - 1)) 25 (Int.toNat (wr ((80 + (4 * z3)) + 2))))) ≤ 0 then (pm_g (0 ≤ (wr ((80 + (4 * z3)) + 1)) ∧ (wr ((80 + (4 * z3)) + 1)) < 755) (pm_g (0 ≤ (wr (96 + ((pm_up σ 25 (Int.toNat (wr ((80 + (4 * z3)) + 2))) ((σ 25 (Int.toNat (wr ((80 + (4 * z3)) + 2)))) - 1)) 25 (Int.toNat (wr ((80 + (4 * z3)) + 1)))))) ∧ (wr (96 + ((pm_up σ 25 (Int.toNat (wr ((80 + (4 * z3)) + 2))) ((σ 25 (Int.toNat (wr ((80 + (4 * z3)) + 2)))) - 1)) 25 (Int.toNat (wr ((80 + (4 * z3)) + 1)))))) < 755) (pm_g (0 ≤ (wr (80 + (4 * z3))) ∧ (wr (80 + (4 * z3))) < 755) (pm_g (0 ≤ (wr (96 + ((pm_up σ 25 (Int.toNat (wr ((80 + (4 * z3)) + 2))) ((σ 25 (Int.toNat (wr ((80 + (4 * z3)) + 2)))) - 1)) 25 (Int.toNat (wr ((80 + (4 * z3)) + 1)))))) ∧ (wr (96 + ((pm_up σ 25 (Int.toNat (wr ((80 + (4 * z3)) + 2))) ((σ 25 (Int.toNat (wr ((80 + (4 * z3)) + 2)))) - 1)) 25 (Int.toNat (wr ((80 + (4 * z3)) + 1)))))) < 755) (pm_g (0 ≤ (wr (80 + (4 * z3))) ∧ (wr (80 + (4 * z3))) < 755) (pm_g (0 ≤ (wr ((80 + (4 * z3)) + 3)) ∧ (wr ((80 + (4 * z3)) + 3)) < 755) (pm_g (0 ≤ (wr ((80 + (4 * z3)) + 3)) ∧ (wr ((80 + (4 * z3)) + 3)) < 755) (some (.inr ((z2 + (-6)), (z3 + 1), (pm_up (pm_up (pm_up (pm_up σ 25 (Int.toNat (wr ((80 + (4 * z3)) + 2))) ((σ 25 (Int.toNat (wr ((80 + (4 * z3)) + 2)))) - 1)) 25 (Int.toNat (wr (96 + ((pm_up σ 25 (Int.toNat (wr ((80 + (4 * z3)) + 2))) ((σ 25 (Int.toNat (wr ((80 + (4 * z3)) + 2)))) - 1)) 25 (Int.toNat (wr ((80 + (4 * z3)) + 1))))))) (((pm_up σ 25 (Int.toNat (wr ((80 + (4 * z3)) + 2))) ((σ 25 (Int.toNat (wr ((80 + (4 * z3)) + 2)))) - 1)) 25 (Int.toNat (wr (96 + ((pm_up σ 25 (Int.toNat (wr ((80 + (4 * z3)) + 2))) ((σ 25 (Int.toNat (wr ((80 + (4 * z3)) + 2)))) - 1)) 25 (Int.toNat (wr ((80 + (4 * z3)) + 1)))))))) + (14 * ((pm_up σ 25 (Int.toNat (wr ((80 + (4 * z3)) + 2))) ((σ 25 (Int.toNat (wr ((80 + (4 * z3)) + 2)))) - 1)) 25 (Int.toNat (wr (80 + (4 * z3)))))))) 25 (Int.toNat (wr (80 + (4 * z3)))) 0) 25 (Int.toNat (wr ((80 + (4 * z3)) + 3))) (((pm_up (pm_up (pm_up σ 25 (Int.toNat (wr ((80 + (4 * z3)) + 2))) ((σ 25 (Int.toNat (wr ((80 + (4 * z3)) + 2)))) - 1)) 25 (Int.toNat (wr (96 + ((pm_up σ 25 (Int.toNat (wr ((80 + (4 * z3)) + 2))) ((σ 25 (Int.toNat (wr ((80 + (4 * z3)) + 2)))) - 1)) 25 (Int.toNat (wr ((80 + (4 * z3)) + 1))))))) (((pm_up σ 25 (Int.toNat (wr ((80 + (4 * z3)) + 2))) ((σ 25 (Int.toNat (wr ((80 + (4 * z3)) + 2)))) - 1)) 25 (Int.toNat (wr (96 + ((pm_up σ 25 (Int.toNat (wr ((80 + (4 * z3)) + 2))) ((σ 25 (Int.toNat (wr ((80 + (4 * z3)) + 2)))) - 1)) 25 (Int.toNat (wr ((80 + (4 * z3)) + 1)))))))) + (14 * ((pm_up σ 25 (Int.toNat (wr ((80 + (4 * z3)) + 2))) ((σ 25 (Int.toNat (wr ((80 + (4 * z3)) + 2)))) - 1)) 25 (Int.toNat (wr (80 + (4 * z3)))))))) 25 (Int.toNat (wr (80 + (4 * z3)))) 0) 25 (Int.toNat (wr ((80 + (4 * z3)) + 3)))) + 1)))))))))))) else (some (.inr ((z2 + (-6)), (z3 + 1), (pm_up σ 25 (Int.toNat (wr ((80 + (4 * z3)) + 2))) ((σ 25 (Int.toNat (wr ((80 + (4 * z3)) + 2)))) - 1))))))))) else (some (.inr (z2, (z3 + 1), σ))))))
set_option maxHeartbeats 4000000 in
set_option maxRecDepth 100000 in
theorem tbX12_works_4 {lay0 lay' : List pm_S} {r : Option pm_V} {σ' : pm_M} : ∀ (a : Int × Int × pm_M) (e : (Int × Int × pm_M) ⊕ (Int × Int × pm_M)), (fun a => bdX12_works_4 a.1 a.2.1 a.2.2) a = some e → (∀ a, e = .inr a → (fun a => pm_J mX12_works 3 70 lay0 r lay' σ' 4 [some (pv_r 0), none, some (pv_i a.1), some (pv_i a.2.1), none] [] LAYM a.2.2) a) → (∀ a, e = .inl a → (fun a => pm_J mX12_works 3 70 lay0 r lay' σ' 124 [some (pv_r 0), none, some (pv_i a.1), none, none] [] LAYM a.2.2) a) → (fun a => pm_J mX12_works 3 70 lay0 r lay' σ' 4 [some (pv_r 0), none, some (pv_i a.1), some (pv_i a.2.1), none] [] LAYM a.2.2) a := by
  intro a e h hc hx
  obtain ⟨z2, z3, σ⟩ := a
  have h : bdX12_works_4 z2 z3 σ = some e := h
  unfold bdX12_works_4 at h
  show pm_J mX12_works 3 70 lay0 r lay' σ' 4 [some (pv_r 0), none, some (pv_i z2), some (pv_i z3), none] [] LAYM σ
  refine pr_iload_n dX12_works_4 rfl ?_
  refine pr_iconst dX12_works_5 ?_
  refine pr_icmp_ge (tgt := 124) dX12_works_6 rfl (wr_eq (by decide) (by decide)) (by decide) (fun c_1 => ?_) (fun c_1 => ?_)
  · have h := pm_pos c_1 h
    refine pr_weak (L2 := [some (pv_r 0), none, some (pv_i z2), none, none]) ⟨Or.inr rfl, Or.inl rfl, Or.inr rfl, Or.inl rfl, Or.inl rfl, trivial⟩ ?_
    exact hx _ (Option.some.inj h).symm
  · have h := pm_ng c_1 h
    refine pr_bipush dX12_works_9 (by decide) ?_
    refine pr_iconst dX12_works_11 ?_
    refine pr_iload_n dX12_works_12 rfl ?_
    refine pr_imul dX12_works_13 ?_
    refine pr_iadd dX12_works_14 ?_
    refine pr_istore dX12_works_15 (by decide) rfl ?_
    refine pr_aload_n dX12_works_17 rfl ?_
    refine pr_getR dX12_works_18 lk_X12_86 lm_0 rfl ?_
    refine pr_iload dX12_works_21 rfl ?_
    obtain ⟨g_2, h⟩ := pm_gs h
    refine pr_iald dX12_works_23 lm_25 rfl g_2 ?_
    refine pr_if_eq (tgt := 118) dX12_works_24 rfl (by decide) (fun c_3 => ?_) (fun c_3 => ?_)
    · have h := pm_pos c_3 h
      refine pr_iinc dX12_works_118 rfl (by decide) rfl ?_
      refine pr_goto (tgt := 4) dX12_works_121 (by decide) ?_
      refine pr_weak (L2 := [some (pv_r 0), none, some (pv_i z2), some (pv_i (z3 + 1)), none]) ⟨Or.inr rfl, Or.inl rfl, Or.inr rfl, Or.inr rfl, Or.inl rfl, trivial⟩ ?_
      exact hc _ (Option.some.inj h).symm
    · have h := pm_ng c_3 h
      refine pr_iload_n dX12_works_27 rfl ?_
      refine pr_bipush dX12_works_28 (by decide) ?_
      refine pr_icmp_ge (tgt := 36) dX12_works_30 rfl (wr_eq (by decide) (by decide)) (by decide) (fun c_4 => ?_) (fun c_4 => ?_)
      · have h := pm_pos c_4 h
        refine pr_iinc dX12_works_36 rfl (by decide) rfl ?_
        refine pr_aload_n dX12_works_39 rfl ?_
        refine pr_getR dX12_works_40 lk_X12_86 lm_0 rfl ?_
        refine pr_iload dX12_works_43 rfl ?_
        refine pr_iconst dX12_works_45 ?_
        refine pr_iadd dX12_works_46 ?_
        refine pr_dup2 dX12_works_47 rfl rfl ?_
        obtain ⟨g_5, h⟩ := pm_gs h
        refine pr_iald dX12_works_48 lm_25 rfl g_5 ?_
        refine pr_iconst dX12_works_49 ?_
        refine pr_isub dX12_works_50 ?_
        obtain ⟨g_6, h⟩ := pm_gs h
        refine pr_iast dX12_works_51 lm_25 rfl g_6 ?_
        refine pr_aload_n dX12_works_52 rfl ?_
        refine pr_getR dX12_works_53 lk_X12_86 lm_0 rfl ?_
        refine pr_iload dX12_works_56 rfl ?_
        refine pr_iconst dX12_works_58 ?_
        refine pr_iadd dX12_works_59 ?_
        obtain ⟨g_7, h⟩ := pm_gs h
        refine pr_iald dX12_works_60 lm_25 rfl g_7 ?_
        refine pr_if_le (tgt := 67) dX12_works_61 rfl (by decide) (fun c_8 => ?_) (fun c_8 => ?_)
        · have h := pm_pos c_8 h
          refine pr_aload_n dX12_works_67 rfl ?_
          refine pr_getR dX12_works_68 lk_X12_86 lm_0 rfl ?_
          refine pr_bipush dX12_works_71 (by decide) ?_
          refine pr_aload_n dX12_works_73 rfl ?_
          refine pr_getR dX12_works_74 lk_X12_86 lm_0 rfl ?_
          refine pr_iload dX12_works_77 rfl ?_
          refine pr_iconst dX12_works_79 ?_
          refine pr_iadd dX12_works_80 ?_
          obtain ⟨g_9, h⟩ := pm_gs h
          refine pr_iald dX12_works_81 lm_25 rfl g_9 ?_
          refine pr_iadd dX12_works_82 ?_
          refine pr_dup2 dX12_works_83 rfl rfl ?_
          obtain ⟨g_10, h⟩ := pm_gs h
          refine pr_iald dX12_works_84 lm_25 rfl g_10 ?_
          refine pr_bipush dX12_works_85 (by decide) ?_
          refine pr_aload_n dX12_works_87 rfl ?_
          refine pr_getR dX12_works_88 lk_X12_86 lm_0 rfl ?_
          refine pr_iload dX12_works_91 rfl ?_
          obtain ⟨g_11, h⟩ := pm_gs h
          refine pr_iald dX12_works_93 lm_25 rfl g_11 ?_
          refine pr_imul dX12_works_94 ?_
          refine pr_iadd dX12_works_95 ?_
          obtain ⟨g_12, h⟩ := pm_gs h
          refine pr_iast dX12_works_96 lm_25 rfl g_12 ?_
          refine pr_aload_n dX12_works_97 rfl ?_
          refine pr_getR dX12_works_98 lk_X12_86 lm_0 rfl ?_
          refine pr_iload dX12_works_101 rfl ?_
          refine pr_iconst dX12_works_103 ?_
          obtain ⟨g_13, h⟩ := pm_gs h
          refine pr_iast dX12_works_104 lm_25 rfl g_13 ?_
          refine pr_aload_n dX12_works_105 rfl ?_
          refine pr_getR dX12_works_106 lk_X12_86 lm_0 rfl ?_
          refine pr_iload dX12_works_109 rfl ?_
          refine pr_iconst dX12_works_111 ?_
          refine pr_iadd dX12_works_112 ?_
          refine pr_dup2 dX12_works_113 rfl rfl ?_
          obtain ⟨g_14, h⟩ := pm_gs h
          refine pr_iald dX12_works_114 lm_25 rfl g_14 ?_
          refine pr_iconst dX12_works_115 ?_
          refine pr_iadd dX12_works_116 ?_
          obtain ⟨g_15, h⟩ := pm_gs h
          refine pr_iast dX12_works_117 lm_25 rfl g_15 ?_
          refine pr_iinc dX12_works_118 rfl (by decide) rfl ?_
          refine pr_goto (tgt := 4) dX12_works_121 (by decide) ?_
          refine pr_weak (L2 := [some (pv_r 0), none, some (pv_i (z2 + (-6))), some (pv_i (z3 + 1)), none]) ⟨Or.inr rfl, Or.inl rfl, Or.inr rfl, Or.inr rfl, Or.inl rfl, trivial⟩ ?_
          exact hc _ (Option.some.inj h).symm
        · have h := pm_ng c_8 h
          refine pr_goto (tgt := 118) dX12_works_64 (by decide) ?_
          refine pr_iinc dX12_works_118 rfl (by decide) rfl ?_
          refine pr_goto (tgt := 4) dX12_works_121 (by decide) ?_
          refine pr_weak (L2 := [some (pv_r 0), none, some (pv_i (z2 + (-6))), some (pv_i (z3 + 1)), none]) ⟨Or.inr rfl, Or.inl rfl, Or.inr rfl, Or.inr rfl, Or.inl rfl, trivial⟩ ?_
          exact hc _ (Option.some.inj h).symm
      · have h := pm_ng c_4 h
        refine pr_goto (tgt := 118) dX12_works_33 (by decide) ?_
        refine pr_iinc dX12_works_118 rfl (by decide) rfl ?_
        refine pr_goto (tgt := 4) dX12_works_121 (by decide) ?_
        refine pr_weak (L2 := [some (pv_r 0), none, some (pv_i z2), some (pv_i (z3 + 1)), none]) ⟨Or.inr rfl, Or.inl rfl, Or.inr rfl, Or.inr rfl, Or.inl rfl, trivial⟩ ?_
        exact hc _ (Option.some.inj h).symm
def jnX12_works_156l126 (w2 : Int) (w3 : Int) (σ : pm_M) : Option ((Int × Int × pm_M) ⊕ (Int × Int × pm_M)) :=
  pm_g (0 ≤ (wr ((105 + (2 * w3)) + 1)) ∧ (wr ((105 + (2 * w3)) + 1)) < 755) (pm_g (0 ≤ (wr ((105 + (2 * w3)) + 1)) ∧ (wr ((105 + (2 * w3)) + 1)) < 755) (some (.inr (w2, (w3 + 1), (pm_up σ 25 (Int.toNat (wr ((105 + (2 * w3)) + 1))) ((σ 25 (Int.toNat (wr ((105 + (2 * w3)) + 1)))) + 1))))))
set_option maxHeartbeats 4000000 in
set_option maxRecDepth 100000 in
theorem tjX12_works_156l126 {lay0 lay' : List pm_S} {r : Option pm_V} {σ' : pm_M} {w2 : Int} {w3 : Int} {σ : pm_M} {e : (Int × Int × pm_M) ⊕ (Int × Int × pm_M)} (h : jnX12_works_156l126 w2 w3 σ = some e) (hc : ∀ a, e = .inr a → (fun a => pm_J mX12_works 3 70 lay0 r lay' σ' 126 [some (pv_r 0), none, some (pv_i a.1), some (pv_i a.2.1), none] [] LAYM a.2.2) a) (hx : ∀ a, e = .inl a → (fun a => pm_J mX12_works 3 70 lay0 r lay' σ' 214 [none, none, none, none, none] [] LAYM a.2.2) a) : pm_J mX12_works 3 70 lay0 r lay' σ' 156 [some (pv_r 0), none, some (pv_i w2), some (pv_i w3), none] [] LAYM σ := by
  unfold jnX12_works_156l126 at h
  refine pr_aload_n dX12_works_156 rfl ?_
  refine pr_getR dX12_works_157 lk_X12_86 lm_0 rfl ?_
  refine pr_bipush dX12_works_160 (by decide) ?_
  refine pr_iconst dX12_works_162 ?_
  refine pr_iload_n dX12_works_163 rfl ?_
  refine pr_imul dX12_works_164 ?_
  refine pr_iadd dX12_works_165 ?_
  refine pr_iconst dX12_works_166 ?_
  refine pr_iadd dX12_works_167 ?_
  refine pr_dup2 dX12_works_168 rfl rfl ?_
  obtain ⟨g_22, h⟩ := pm_gs h
  refine pr_iald dX12_works_169 lm_25 rfl g_22 ?_
  refine pr_iconst dX12_works_170 ?_
  refine pr_iadd dX12_works_171 ?_
  obtain ⟨g_23, h⟩ := pm_gs h
  refine pr_iast dX12_works_172 lm_25 rfl g_23 ?_
  refine pr_goto (tgt := 208) dX12_works_173 (by decide) ?_
  refine pr_iinc dX12_works_208 rfl (by decide) rfl ?_
  refine pr_goto (tgt := 126) dX12_works_211 (by decide) ?_
  refine pr_weak (L2 := [some (pv_r 0), none, some (pv_i w2), some (pv_i (w3 + 1)), none]) ⟨Or.inr rfl, Or.inl rfl, Or.inr rfl, Or.inr rfl, Or.inl rfl, trivial⟩ ?_
  exact hc _ (Option.some.inj h).symm
def bdX12_works_182 (y2 : Int) (y3 : Int) (z4 : Int) (σ : pm_M) : Option ((Int × pm_M) ⊕ (Int × pm_M)) :=
  if 20 ≤ (wr z4) then (some (.inl (z4, σ))) else ((fX12_hasPulp y3 σ).bind fun q28 => if (wr q28) = 0 then (some (.inl (z4, σ))) else ((fX12_sheet y3 σ).bind fun q31 => some (.inr ((z4 + 1), q31))))
set_option maxHeartbeats 4000000 in
set_option maxRecDepth 100000 in
theorem tbX12_works_182 {lay0 lay' : List pm_S} {r : Option pm_V} {σ' : pm_M} (y2 : Int) (y3 : Int) : ∀ (a : Int × pm_M) (e : (Int × pm_M) ⊕ (Int × pm_M)), (fun a => bdX12_works_182 y2 y3 a.1 a.2) a = some e → (∀ a, e = .inr a → (fun a => pm_J mX12_works 3 70 lay0 r lay' σ' 182 [some (pv_r 0), none, some (pv_i y2), some (pv_i y3), some (pv_i a.1)] [] LAYM a.2) a) → (∀ a, e = .inl a → (fun a => pm_J mX12_works 3 70 lay0 r lay' σ' 208 [some (pv_r 0), none, some (pv_i y2), some (pv_i y3), none] [] LAYM a.2) a) → (fun a => pm_J mX12_works 3 70 lay0 r lay' σ' 182 [some (pv_r 0), none, some (pv_i y2), some (pv_i y3), some (pv_i a.1)] [] LAYM a.2) a := by
  intro a e h hc hx
  obtain ⟨z4, σ⟩ := a
  have h : bdX12_works_182 y2 y3 z4 σ = some e := h
  unfold bdX12_works_182 at h
  show pm_J mX12_works 3 70 lay0 r lay' σ' 182 [some (pv_r 0), none, some (pv_i y2), some (pv_i y3), some (pv_i z4)] [] LAYM σ
  refine pr_iload dX12_works_182 rfl ?_
  refine pr_bipush dX12_works_184 (by decide) ?_
  refine pr_icmp_ge (tgt := 208) dX12_works_186 rfl (wr_eq (by decide) (by decide)) (by decide) (fun c_27 => ?_) (fun c_27 => ?_)
  · have h := pm_pos c_27 h
    refine pr_weak (L2 := [some (pv_r 0), none, some (pv_i y2), some (pv_i y3), none]) ⟨Or.inr rfl, Or.inl rfl, Or.inr rfl, Or.inr rfl, Or.inl rfl, trivial⟩ ?_
    exact hx _ (Option.some.inj h).symm
  · have h := pm_ng c_27 h
    refine pr_aload_n dX12_works_189 rfl ?_
    refine pr_iload_n dX12_works_190 rfl ?_
    obtain ⟨q28, e29, h⟩ := pm_bs h
    refine pr_callV (As := [pv_i y3]) (S := []) (t := 0) dX12_works_191 mk_X12_184 lm_0 (ci := 12) (q := (RX12, TX12, 36)) rfl rfl rfl rfl (by decide) (by decide) (by decide) (Or.inl rfl) (tmX12_hasPulp e29) ?_
    refine pr_if_eq (tgt := 208) dX12_works_194 rfl (by decide) (fun c_30 => ?_) (fun c_30 => ?_)
    · have h := pm_pos c_30 h
      refine pr_weak (L2 := [some (pv_r 0), none, some (pv_i y2), some (pv_i y3), none]) ⟨Or.inr rfl, Or.inl rfl, Or.inr rfl, Or.inr rfl, Or.inl rfl, trivial⟩ ?_
      exact hx _ (Option.some.inj h).symm
    · have h := pm_ng c_30 h
      refine pr_aload_n dX12_works_197 rfl ?_
      refine pr_iload_n dX12_works_198 rfl ?_
      obtain ⟨q31, e32, h⟩ := pm_bs h
      refine pr_callV (As := [pv_i y3]) (S := []) (t := 0) dX12_works_199 mk_X12_187 lm_0 (ci := 12) (q := (RX12, TX12, 36)) rfl rfl rfl rfl (by decide) (by decide) (by decide) (Or.inl rfl) (tmX12_sheet e32) ?_
      refine pr_iinc dX12_works_202 rfl (by decide) rfl ?_
      refine pr_goto (tgt := 182) dX12_works_205 (by decide) ?_
      refine pr_weak (L2 := [some (pv_r 0), none, some (pv_i y2), some (pv_i y3), some (pv_i (z4 + 1))]) ⟨Or.inr rfl, Or.inl rfl, Or.inr rfl, Or.inr rfl, Or.inr rfl, trivial⟩ ?_
      exact hc _ (Option.some.inj h).symm
def bdX12_works_126 (z2 : Int) (z3 : Int) (σ : pm_M) : Option ((Int × Int × pm_M) ⊕ (Int × Int × pm_M)) :=
  if 3 ≤ (wr z3) then (some (.inl (z2, z3, σ))) else (pm_g (0 ≤ (wr z3) ∧ (wr z3) < 3) (if 0 ≤ (wr (σ 14 (Int.toNat (wr z3)))) then (if (wr z2) < 2 then (jnX12_works_156l126 z2 z3 σ) else ((fX12_hasPulp z3 σ).bind fun q24 => if (wr q24) = 0 then (jnX12_works_156l126 z2 z3 σ) else ((pm_it (fun a => bdX12_works_182 (z2 + (-2)) z3 a.1 a.2) pm_fuel (0, σ)).bind fun v33 => some (.inr ((z2 + (-2)), (z3 + 1), v33.2))))) else (some (.inr (z2, (z3 + 1), σ)))))
set_option maxHeartbeats 4000000 in
set_option maxRecDepth 100000 in
theorem tbX12_works_126 {lay0 lay' : List pm_S} {r : Option pm_V} {σ' : pm_M} : ∀ (a : Int × Int × pm_M) (e : (Int × Int × pm_M) ⊕ (Int × Int × pm_M)), (fun a => bdX12_works_126 a.1 a.2.1 a.2.2) a = some e → (∀ a, e = .inr a → (fun a => pm_J mX12_works 3 70 lay0 r lay' σ' 126 [some (pv_r 0), none, some (pv_i a.1), some (pv_i a.2.1), none] [] LAYM a.2.2) a) → (∀ a, e = .inl a → (fun a => pm_J mX12_works 3 70 lay0 r lay' σ' 214 [none, none, none, none, none] [] LAYM a.2.2) a) → (fun a => pm_J mX12_works 3 70 lay0 r lay' σ' 126 [some (pv_r 0), none, some (pv_i a.1), some (pv_i a.2.1), none] [] LAYM a.2.2) a := by
  intro a e h hc hx
  obtain ⟨z2, z3, σ⟩ := a
  have h : bdX12_works_126 z2 z3 σ = some e := h
  unfold bdX12_works_126 at h
  show pm_J mX12_works 3 70 lay0 r lay' σ' 126 [some (pv_r 0), none, some (pv_i z2), some (pv_i z3), none] [] LAYM σ
  refine pr_iload_n dX12_works_126 rfl ?_
  refine pr_iconst dX12_works_127 ?_
  refine pr_icmp_ge (tgt := 214) dX12_works_128 rfl (wr_eq (by decide) (by decide)) (by decide) (fun c_18 => ?_) (fun c_18 => ?_)
  · have h := pm_pos c_18 h
    refine pr_weak (L2 := [none, none, none, none, none]) ⟨Or.inl rfl, Or.inl rfl, Or.inl rfl, Or.inl rfl, Or.inl rfl, trivial⟩ ?_
    exact hx _ (Option.some.inj h).symm
  · have h := pm_ng c_18 h
    refine pr_aload_n dX12_works_131 rfl ?_
    refine pr_getR dX12_works_132 lk_X12_49 lm_0 rfl ?_
    refine pr_iload_n dX12_works_135 rfl ?_
    obtain ⟨g_19, h⟩ := pm_gs h
    refine pr_iald dX12_works_136 lm_14 rfl g_19 ?_
    refine pr_if_ge (tgt := 143) dX12_works_137 rfl (by decide) (fun c_20 => ?_) (fun c_20 => ?_)
    · have h := pm_pos c_20 h
      refine pr_iload_n dX12_works_143 rfl ?_
      refine pr_iconst dX12_works_144 ?_
      refine pr_icmp_lt (tgt := 156) dX12_works_145 rfl (wr_eq (by decide) (by decide)) (by decide) (fun c_21 => ?_) (fun c_21 => ?_)
      · have h := pm_pos c_21 h
        refine pr_weak (L2 := [some (pv_r 0), none, some (pv_i z2), some (pv_i z3), none]) ⟨Or.inr rfl, Or.inl rfl, Or.inr rfl, Or.inr rfl, Or.inl rfl, trivial⟩ ?_
        exact tjX12_works_156l126 h hc hx
      · have h := pm_ng c_21 h
        refine pr_aload_n dX12_works_148 rfl ?_
        refine pr_iload_n dX12_works_149 rfl ?_
        obtain ⟨q24, e25, h⟩ := pm_bs h
        refine pr_callV (As := [pv_i z3]) (S := []) (t := 0) dX12_works_150 mk_X12_184 lm_0 (ci := 12) (q := (RX12, TX12, 36)) rfl rfl rfl rfl (by decide) (by decide) (by decide) (Or.inl rfl) (tmX12_hasPulp e25) ?_
        refine pr_if_ne (tgt := 176) dX12_works_153 rfl (by decide) (fun c_26 => ?_) (fun c_26 => ?_)
        · have h := pm_ng c_26 h
          refine pr_iinc dX12_works_176 rfl (by decide) rfl ?_
          refine pr_iconst dX12_works_179 ?_
          refine pr_istore dX12_works_180 (by decide) rfl ?_
          obtain ⟨v33, e34, h⟩ := pm_bs h
          refine pr_weak (L2 := [some (pv_r 0), none, some (pv_i (z2 + (-2))), some (pv_i z3), some (pv_i 0)]) ⟨Or.inr rfl, Or.inl rfl, Or.inr rfl, Or.inr rfl, Or.inr rfl, trivial⟩ ?_
          refine pm_it_J (P := fun a => pm_J mX12_works 3 70 lay0 r lay' σ' 182 [some (pv_r 0), none, some (pv_i (z2 + (-2))), some (pv_i z3), some (pv_i a.1)] [] LAYM a.2) (Rx := fun a => pm_J mX12_works 3 70 lay0 r lay' σ' 208 [some (pv_r 0), none, some (pv_i (z2 + (-2))), some (pv_i z3), none] [] LAYM a.2) (tbX12_works_182 (z2 + (-2)) z3) _ _ _ e34 ?_
          show pm_J mX12_works 3 70 lay0 r lay' σ' 208 [some (pv_r 0), none, some (pv_i (z2 + (-2))), some (pv_i z3), none] [] LAYM v33.2
          refine pr_iinc dX12_works_208 rfl (by decide) rfl ?_
          refine pr_goto (tgt := 126) dX12_works_211 (by decide) ?_
          refine pr_weak (L2 := [some (pv_r 0), none, some (pv_i (z2 + (-2))), some (pv_i (z3 + 1)), none]) ⟨Or.inr rfl, Or.inl rfl, Or.inr rfl, Or.inr rfl, Or.inl rfl, trivial⟩ ?_
          exact hc _ (Option.some.inj h).symm
        · have h := pm_pos c_26 h
          refine pr_weak (L2 := [some (pv_r 0), none, some (pv_i z2), some (pv_i z3), none]) ⟨Or.inr rfl, Or.inl rfl, Or.inr rfl, Or.inr rfl, Or.inl rfl, trivial⟩ ?_
          exact tjX12_works_156l126 h hc hx
    · have h := pm_ng c_20 h
      refine pr_goto (tgt := 208) dX12_works_140 (by decide) ?_
      refine pr_iinc dX12_works_208 rfl (by decide) rfl ?_
      refine pr_goto (tgt := 126) dX12_works_211 (by decide) ?_
      refine pr_weak (L2 := [some (pv_r 0), none, some (pv_i z2), some (pv_i (z3 + 1)), none]) ⟨Or.inr rfl, Or.inl rfl, Or.inr rfl, Or.inr rfl, Or.inl rfl, trivial⟩ ?_
      exact hc _ (Option.some.inj h).symm
def fX12_works (x1 : Int) (σ : pm_M) : Option (pm_M) :=
  (pm_it (fun a => bdX12_works_4 a.1 a.2.1 a.2.2) pm_fuel (x1, 0, σ)).bind fun v16 => (pm_it (fun a => bdX12_works_126 a.1 a.2.1 a.2.2) pm_fuel (v16.1, 0, v16.2.2)).bind fun v35 => some v35.2.2
set_option maxHeartbeats 4000000 in
set_option maxRecDepth 100000 in
theorem tmX12_works {x1 : Int} {σ : pm_M} {ρ : pm_M} (h : fX12_works x1 σ = some ρ) : pm_C mX12_works 3 70 [pv_r 0, pv_i x1] LAYM σ none LAYM ρ := by
  refine pm_C.of rfl rfl (by decide) ?_
  show pm_J mX12_works 3 70 LAYM none LAYM ρ 0 [some (pv_r 0), some (pv_i x1), none, none, none] [] LAYM σ
  unfold fX12_works at h
  refine pr_iload_n dX12_works_0 rfl ?_
  refine pr_istore_n dX12_works_1 (by decide) rfl ?_
  refine pr_iconst dX12_works_2 ?_
  refine pr_istore_n dX12_works_3 (by decide) rfl ?_
  obtain ⟨v16, e17, h⟩ := pm_bs h
  refine pr_weak (L2 := [some (pv_r 0), none, some (pv_i x1), some (pv_i 0), none]) ⟨Or.inr rfl, Or.inl rfl, Or.inr rfl, Or.inr rfl, Or.inl rfl, trivial⟩ ?_
  refine pm_it_J (P := fun a => pm_J mX12_works 3 70 LAYM none LAYM ρ 4 [some (pv_r 0), none, some (pv_i a.1), some (pv_i a.2.1), none] [] LAYM a.2.2) (Rx := fun a => pm_J mX12_works 3 70 LAYM none LAYM ρ 124 [some (pv_r 0), none, some (pv_i a.1), none, none] [] LAYM a.2.2) (tbX12_works_4) _ _ _ e17 ?_
  show pm_J mX12_works 3 70 LAYM none LAYM ρ 124 [some (pv_r 0), none, some (pv_i v16.1), none, none] [] LAYM v16.2.2
  refine pr_iconst dX12_works_124 ?_
  refine pr_istore_n dX12_works_125 (by decide) rfl ?_
  obtain ⟨v35, e36, h⟩ := pm_bs h
  refine pr_weak (L2 := [some (pv_r 0), none, some (pv_i v16.1), some (pv_i 0), none]) ⟨Or.inr rfl, Or.inl rfl, Or.inr rfl, Or.inr rfl, Or.inl rfl, trivial⟩ ?_
  refine pm_it_J (P := fun a => pm_J mX12_works 3 70 LAYM none LAYM ρ 126 [some (pv_r 0), none, some (pv_i a.1), some (pv_i a.2.1), none] [] LAYM a.2.2) (Rx := fun a => pm_J mX12_works 3 70 LAYM none LAYM ρ 214 [none, none, none, none, none] [] LAYM a.2.2) (tbX12_works_126) _ _ _ e36 ?_
  show pm_J mX12_works 3 70 LAYM none LAYM ρ 214 [none, none, none, none, none] [] LAYM v35.2.2
  have h := Option.some.inj h
  subst h
  exact pr_vret dX12_works_214 rfl
def bdX12_inState_4 (y1 : Int) (σ : pm_M) (z2 : Int) (z3 : Int) : Option ((Int × Int) ⊕ (Int × Int)) :=
  if (wr (σ 25 (Int.toNat 752))) ≤ (wr z3) then (some (.inl (z2, z3))) else ((fX12_post z3 0 σ).bind fun q2 => if (wr q2) = (wr y1) then (some (.inr ((z2 + 1), (z3 + 1)))) else (some (.inr ((z2 + 0), (z3 + 1)))))
set_option maxHeartbeats 4000000 in
set_option maxRecDepth 100000 in
theorem tbX12_inState_4 {lay0 lay' : List pm_S} {r : Option pm_V} {σ' : pm_M} (y1 : Int) (σ : pm_M) : ∀ (a : Int × Int) (e : (Int × Int) ⊕ (Int × Int)), (fun a => bdX12_inState_4 y1 σ a.1 a.2) a = some e → (∀ a, e = .inr a → (fun a => pm_J mX12_inState 1 22 lay0 r lay' σ' 4 [some (pv_r 0), some (pv_i y1), some (pv_i a.1), some (pv_i a.2)] [] LAYM σ) a) → (∀ a, e = .inl a → (fun a => pm_J mX12_inState 1 22 lay0 r lay' σ' 40 [none, none, some (pv_i a.1), none] [] LAYM σ) a) → (fun a => pm_J mX12_inState 1 22 lay0 r lay' σ' 4 [some (pv_r 0), some (pv_i y1), some (pv_i a.1), some (pv_i a.2)] [] LAYM σ) a := by
  intro a e h hc hx
  obtain ⟨z2, z3⟩ := a
  have h : bdX12_inState_4 y1 σ z2 z3 = some e := h
  unfold bdX12_inState_4 at h
  show pm_J mX12_inState 1 22 lay0 r lay' σ' 4 [some (pv_r 0), some (pv_i y1), some (pv_i z2), some (pv_i z3)] [] LAYM σ
  refine pr_iload_n dX12_inState_4 rfl ?_
  refine pr_aload_n dX12_inState_5 rfl ?_
  refine pr_getR dX12_inState_6 lk_X12_86 lm_0 rfl ?_
  refine pr_sipush dX12_inState_9 (by decide) ?_
  refine pr_iald dX12_inState_12 lm_25 (wr_eq (by decide) (by decide)) ⟨by decide, by decide⟩ ?_
  refine pr_icmp_ge (tgt := 40) dX12_inState_13 rfl rfl (by decide) (fun c_1 => ?_) (fun c_1 => ?_)
  · have h := pm_pos c_1 h
    refine pr_weak (L2 := [none, none, some (pv_i z2), none]) ⟨Or.inl rfl, Or.inl rfl, Or.inr rfl, Or.inl rfl, trivial⟩ ?_
    exact hx _ (Option.some.inj h).symm
  · have h := pm_ng c_1 h
    refine pr_iload_n dX12_inState_16 rfl ?_
    refine pr_aload_n dX12_inState_17 rfl ?_
    refine pr_iload_n dX12_inState_18 rfl ?_
    refine pr_iconst dX12_inState_19 ?_
    obtain ⟨q2, e3, h⟩ := pm_bs h
    refine pr_callV (As := [pv_i z3, pv_i 0]) (S := [pv_i z2]) (t := 0) dX12_inState_20 mk_X12_138 lm_0 (ci := 12) (q := (RX12, TX12, 36)) rfl rfl rfl rfl (by decide) (by decide) (by decide) (Or.inl rfl) (tmX12_post e3) ?_
    refine pr_iload_n dX12_inState_23 rfl ?_
    refine pr_icmp_ne (tgt := 31) dX12_inState_24 rfl rfl (by decide) (fun c_4 => ?_) (fun c_4 => ?_)
    · have h := pm_ng c_4 h
      refine pr_iconst dX12_inState_31 ?_
      refine pr_iadd dX12_inState_32 ?_
      refine pr_istore_n dX12_inState_33 (by decide) rfl ?_
      refine pr_iinc dX12_inState_34 rfl (by decide) rfl ?_
      refine pr_goto (tgt := 4) dX12_inState_37 (by decide) ?_
      refine pr_weak (L2 := [some (pv_r 0), some (pv_i y1), some (pv_i (z2 + 0)), some (pv_i (z3 + 1))]) ⟨Or.inr rfl, Or.inr rfl, Or.inr rfl, Or.inr rfl, trivial⟩ ?_
      exact hc _ (Option.some.inj h).symm
    · have h := pm_pos c_4 h
      refine pr_iconst dX12_inState_27 ?_
      refine pr_goto (tgt := 32) dX12_inState_28 (by decide) ?_
      refine pr_iadd dX12_inState_32 ?_
      refine pr_istore_n dX12_inState_33 (by decide) rfl ?_
      refine pr_iinc dX12_inState_34 rfl (by decide) rfl ?_
      refine pr_goto (tgt := 4) dX12_inState_37 (by decide) ?_
      refine pr_weak (L2 := [some (pv_r 0), some (pv_i y1), some (pv_i (z2 + 1)), some (pv_i (z3 + 1))]) ⟨Or.inr rfl, Or.inr rfl, Or.inr rfl, Or.inr rfl, trivial⟩ ?_
      exact hc _ (Option.some.inj h).symm
def fX12_inState (x1 : Int) (σ : pm_M) : Option (Int) :=
  (pm_it (fun a => bdX12_inState_4 x1 σ a.1 a.2) pm_fuel (0, 0)).bind fun v5 => some v5.1
set_option maxHeartbeats 4000000 in
set_option maxRecDepth 100000 in
theorem tmX12_inState {x1 : Int} {σ : pm_M} {ρ : Int} (h : fX12_inState x1 σ = some ρ) : pm_C mX12_inState 1 22 [pv_r 0, pv_i x1] LAYM σ (some (pv_i ρ)) LAYM σ := by
  refine pm_C.of rfl rfl (by decide) ?_
  show pm_J mX12_inState 1 22 LAYM (some (pv_i ρ)) LAYM σ 0 [some (pv_r 0), some (pv_i x1), none, none] [] LAYM σ
  unfold fX12_inState at h
  refine pr_iconst dX12_inState_0 ?_
  refine pr_istore_n dX12_inState_1 (by decide) rfl ?_
  refine pr_iconst dX12_inState_2 ?_
  refine pr_istore_n dX12_inState_3 (by decide) rfl ?_
  obtain ⟨v5, e6, h⟩ := pm_bs h
  refine pr_weak (L2 := [some (pv_r 0), some (pv_i x1), some (pv_i 0), some (pv_i 0)]) ⟨Or.inr rfl, Or.inr rfl, Or.inr rfl, Or.inr rfl, trivial⟩ ?_
  refine pm_it_J (P := fun a => pm_J mX12_inState 1 22 LAYM (some (pv_i ρ)) LAYM σ 4 [some (pv_r 0), some (pv_i x1), some (pv_i a.1), some (pv_i a.2)] [] LAYM σ) (Rx := fun a => pm_J mX12_inState 1 22 LAYM (some (pv_i ρ)) LAYM σ 40 [none, none, some (pv_i a.1), none] [] LAYM σ) (tbX12_inState_4 x1 σ) _ _ _ e6 ?_
  show pm_J mX12_inState 1 22 LAYM (some (pv_i ρ)) LAYM σ 40 [none, none, some (pv_i v5.1), none] [] LAYM σ
  refine pr_iload_n dX12_inState_40 rfl ?_
  have h := Option.some.inj h
  subst h
  exact pr_iret dX12_inState_41 rfl
def bdX12_hour_109 (y1 : Int) (y2 : Int) (z3 : Int) (z4 : Int) (σ : pm_M) : Option ((Int × Int × pm_M) ⊕ (Int × Int × pm_M)) :=
  if (wr (σ 25 (Int.toNat 752))) ≤ (wr z4) then (some (.inl (z3, z4, σ))) else ((fX12_post z4 0 σ).bind fun q12 => if (wr q12) = 0 then (if (wr z3) < (wr (σ 0 20)) then ((fX12_put z4 0 1 σ).bind fun q16 => (fX12_put z4 4 (q16 25 (Int.toNat 751)) q16).bind fun q18 => some (.inr ((z3 + 1), (z4 + 1), q18))) else (some (.inr (z3, (z4 + 1), σ)))) else (some (.inr (z3, (z4 + 1), σ))))
set_option maxHeartbeats 4000000 in
set_option maxRecDepth 100000 in
theorem tbX12_hour_109 {lay0 lay' : List pm_S} {r : Option pm_V} {σ' : pm_M} (y1 : Int) (y2 : Int) : ∀ (a : Int × Int × pm_M) (e : (Int × Int × pm_M) ⊕ (Int × Int × pm_M)), (fun a => bdX12_hour_109 y1 y2 a.1 a.2.1 a.2.2) a = some e → (∀ a, e = .inr a → (fun a => pm_J mX12_hour 4 94 lay0 r lay' σ' 109 [some (pv_r 0), some (pv_i y1), some (pv_i y2), some (pv_i a.1), some (pv_i a.2.1), none] [] LAYM a.2.2) a) → (∀ a, e = .inl a → (fun a => pm_J mX12_hour 4 94 lay0 r lay' σ' 175 [some (pv_r 0), some (pv_i y1), some (pv_i y2), none, none, none] [] LAYM a.2.2) a) → (fun a => pm_J mX12_hour 4 94 lay0 r lay' σ' 109 [some (pv_r 0), some (pv_i y1), some (pv_i y2), some (pv_i a.1), some (pv_i a.2.1), none] [] LAYM a.2.2) a := by
  intro a e h hc hx
  obtain ⟨z3, z4, σ⟩ := a
  have h : bdX12_hour_109 y1 y2 z3 z4 σ = some e := h
  unfold bdX12_hour_109 at h
  show pm_J mX12_hour 4 94 lay0 r lay' σ' 109 [some (pv_r 0), some (pv_i y1), some (pv_i y2), some (pv_i z3), some (pv_i z4), none] [] LAYM σ
  refine pr_iload dX12_hour_109 rfl ?_
  refine pr_aload_n dX12_hour_111 rfl ?_
  refine pr_getR dX12_hour_112 lk_X12_86 lm_0 rfl ?_
  refine pr_sipush dX12_hour_115 (by decide) ?_
  refine pr_iald dX12_hour_118 lm_25 (wr_eq (by decide) (by decide)) ⟨by decide, by decide⟩ ?_
  refine pr_icmp_ge (tgt := 175) dX12_hour_119 rfl rfl (by decide) (fun c_11 => ?_) (fun c_11 => ?_)
  · have h := pm_pos c_11 h
    refine pr_weak (L2 := [some (pv_r 0), some (pv_i y1), some (pv_i y2), none, none, none]) ⟨Or.inr rfl, Or.inr rfl, Or.inr rfl, Or.inl rfl, Or.inl rfl, Or.inl rfl, trivial⟩ ?_
    exact hx _ (Option.some.inj h).symm
  · have h := pm_ng c_11 h
    refine pr_aload_n dX12_hour_122 rfl ?_
    refine pr_iload dX12_hour_123 rfl ?_
    refine pr_iconst dX12_hour_125 ?_
    obtain ⟨q12, e13, h⟩ := pm_bs h
    refine pr_callV (As := [pv_i z4, pv_i 0]) (S := []) (t := 0) dX12_hour_126 mk_X12_138 lm_0 (ci := 12) (q := (RX12, TX12, 36)) rfl rfl rfl rfl (by decide) (by decide) (by decide) (Or.inl rfl) (tmX12_post e13) ?_
    refine pr_if_ne (tgt := 169) dX12_hour_129 rfl (by decide) (fun c_14 => ?_) (fun c_14 => ?_)
    · have h := pm_ng c_14 h
      refine pr_iinc dX12_hour_169 rfl (by decide) rfl ?_
      refine pr_goto (tgt := 109) dX12_hour_172 (by decide) ?_
      refine pr_weak (L2 := [some (pv_r 0), some (pv_i y1), some (pv_i y2), some (pv_i z3), some (pv_i (z4 + 1)), none]) ⟨Or.inr rfl, Or.inr rfl, Or.inr rfl, Or.inr rfl, Or.inr rfl, Or.inl rfl, trivial⟩ ?_
      exact hc _ (Option.some.inj h).symm
    · have h := pm_pos c_14 h
      refine pr_iload_n dX12_hour_132 rfl ?_
      refine pr_aload_n dX12_hour_133 rfl ?_
      refine pr_getI dX12_hour_134 lk_X12_55 lm_0 rfl ?_
      refine pr_icmp_lt (tgt := 143) dX12_hour_137 rfl rfl (by decide) (fun c_15 => ?_) (fun c_15 => ?_)
      · have h := pm_pos c_15 h
        refine pr_aload_n dX12_hour_143 rfl ?_
        refine pr_iload dX12_hour_144 rfl ?_
        refine pr_iconst dX12_hour_146 ?_
        refine pr_iconst dX12_hour_147 ?_
        obtain ⟨q16, e17, h⟩ := pm_bs h
        refine pr_callV (As := [pv_i z4, pv_i 0, pv_i 1]) (S := []) (t := 0) dX12_hour_148 mk_X12_144 lm_0 (ci := 12) (q := (RX12, TX12, 36)) rfl rfl rfl rfl (by decide) (by decide) (by decide) (Or.inl rfl) (tmX12_put e17) ?_
        refine pr_aload_n dX12_hour_151 rfl ?_
        refine pr_iload dX12_hour_152 rfl ?_
        refine pr_iconst dX12_hour_154 ?_
        refine pr_aload_n dX12_hour_155 rfl ?_
        refine pr_getR dX12_hour_156 lk_X12_86 lm_0 rfl ?_
        refine pr_sipush dX12_hour_159 (by decide) ?_
        refine pr_iald dX12_hour_162 lm_25 (wr_eq (by decide) (by decide)) ⟨by decide, by decide⟩ ?_
        obtain ⟨q18, e19, h⟩ := pm_bs h
        refine pr_callV (As := [pv_i z4, pv_i 4, pv_i (q16 25 (Int.toNat 751))]) (S := []) (t := 0) dX12_hour_163 mk_X12_144 lm_0 (ci := 12) (q := (RX12, TX12, 36)) rfl rfl rfl rfl (by decide) (by decide) (by decide) (Or.inl rfl) (tmX12_put e19) ?_
        refine pr_iinc dX12_hour_166 rfl (by decide) rfl ?_
        refine pr_iinc dX12_hour_169 rfl (by decide) rfl ?_
        refine pr_goto (tgt := 109) dX12_hour_172 (by decide) ?_
        refine pr_weak (L2 := [some (pv_r 0), some (pv_i y1), some (pv_i y2), some (pv_i (z3 + 1)), some (pv_i (z4 + 1)), none]) ⟨Or.inr rfl, Or.inr rfl, Or.inr rfl, Or.inr rfl, Or.inr rfl, Or.inl rfl, trivial⟩ ?_
        exact hc _ (Option.some.inj h).symm
      · have h := pm_ng c_15 h
        refine pr_goto (tgt := 169) dX12_hour_140 (by decide) ?_
        refine pr_iinc dX12_hour_169 rfl (by decide) rfl ?_
        refine pr_goto (tgt := 109) dX12_hour_172 (by decide) ?_
        refine pr_weak (L2 := [some (pv_r 0), some (pv_i y1), some (pv_i y2), some (pv_i z3), some (pv_i (z4 + 1)), none]) ⟨Or.inr rfl, Or.inr rfl, Or.inr rfl, Or.inr rfl, Or.inr rfl, Or.inl rfl, trivial⟩ ?_
        exact hc _ (Option.some.inj h).symm
def bdX12_hour_194 (y4 : Int) (z5 : Int) (σ : pm_M) : Option ((Int × pm_M) ⊕ (Int × pm_M)) :=
  if (wr (σ 25 (Int.toNat 752))) ≤ (wr z5) then (some (.inl (z5, σ))) else ((fX12_post z5 0 σ).bind fun q26 => if (wr q26) = 1 then ((fX12_post z5 5 σ).bind fun q29 => (fX12_put z5 5 (q29 + y4) σ).bind fun q31 => (fX12_post z5 5 q31).bind fun q33 => if 40 ≤ (wr q33) then ((fX12_put z5 0 2 q31).bind fun q36 => (fX12_put z5 6 (q36 25 (Int.toNat 751)) q36).bind fun q38 => some (.inr ((z5 + 1), q38))) else (some (.inr ((z5 + 1), q31)))) else (some (.inr ((z5 + 1), σ))))
set_option maxHeartbeats 4000000 in
set_option maxRecDepth 100000 in
theorem tbX12_hour_194 {lay0 lay' : List pm_S} {r : Option pm_V} {σ' : pm_M} (y4 : Int) : ∀ (a : Int × pm_M) (e : (Int × pm_M) ⊕ (Int × pm_M)), (fun a => bdX12_hour_194 y4 a.1 a.2) a = some e → (∀ a, e = .inr a → (fun a => pm_J mX12_hour 4 94 lay0 r lay' σ' 194 [some (pv_r 0), none, none, none, some (pv_i y4), some (pv_i a.1)] [] LAYM a.2) a) → (∀ a, e = .inl a → (fun a => pm_J mX12_hour 4 94 lay0 r lay' σ' 283 [some (pv_r 0), none, none, none, none, none] [] LAYM a.2) a) → (fun a => pm_J mX12_hour 4 94 lay0 r lay' σ' 194 [some (pv_r 0), none, none, none, some (pv_i y4), some (pv_i a.1)] [] LAYM a.2) a := by
  intro a e h hc hx
  obtain ⟨z5, σ⟩ := a
  have h : bdX12_hour_194 y4 z5 σ = some e := h
  unfold bdX12_hour_194 at h
  show pm_J mX12_hour 4 94 lay0 r lay' σ' 194 [some (pv_r 0), none, none, none, some (pv_i y4), some (pv_i z5)] [] LAYM σ
  refine pr_iload dX12_hour_194 rfl ?_
  refine pr_aload_n dX12_hour_196 rfl ?_
  refine pr_getR dX12_hour_197 lk_X12_86 lm_0 rfl ?_
  refine pr_sipush dX12_hour_200 (by decide) ?_
  refine pr_iald dX12_hour_203 lm_25 (wr_eq (by decide) (by decide)) ⟨by decide, by decide⟩ ?_
  refine pr_icmp_ge (tgt := 283) dX12_hour_204 rfl rfl (by decide) (fun c_25 => ?_) (fun c_25 => ?_)
  · have h := pm_pos c_25 h
    refine pr_weak (L2 := [some (pv_r 0), none, none, none, none, none]) ⟨Or.inr rfl, Or.inl rfl, Or.inl rfl, Or.inl rfl, Or.inl rfl, Or.inl rfl, trivial⟩ ?_
    exact hx _ (Option.some.inj h).symm
  · have h := pm_ng c_25 h
    refine pr_aload_n dX12_hour_207 rfl ?_
    refine pr_iload dX12_hour_208 rfl ?_
    refine pr_iconst dX12_hour_210 ?_
    obtain ⟨q26, e27, h⟩ := pm_bs h
    refine pr_callV (As := [pv_i z5, pv_i 0]) (S := []) (t := 0) dX12_hour_211 mk_X12_138 lm_0 (ci := 12) (q := (RX12, TX12, 36)) rfl rfl rfl rfl (by decide) (by decide) (by decide) (Or.inl rfl) (tmX12_post e27) ?_
    refine pr_iconst dX12_hour_214 ?_
    refine pr_icmp_eq (tgt := 221) dX12_hour_215 rfl (wr_eq (by decide) (by decide)) (by decide) (fun c_28 => ?_) (fun c_28 => ?_)
    · have h := pm_pos c_28 h
      refine pr_aload_n dX12_hour_221 rfl ?_
      refine pr_iload dX12_hour_222 rfl ?_
      refine pr_iconst dX12_hour_224 ?_
      refine pr_aload_n dX12_hour_225 rfl ?_
      refine pr_iload dX12_hour_226 rfl ?_
      refine pr_iconst dX12_hour_228 ?_
      obtain ⟨q29, e30, h⟩ := pm_bs h
      refine pr_callV (As := [pv_i z5, pv_i 5]) (S := [pv_i 5, pv_i z5, pv_r 0]) (t := 0) dX12_hour_229 mk_X12_138 lm_0 (ci := 12) (q := (RX12, TX12, 36)) rfl rfl rfl rfl (by decide) (by decide) (by decide) (Or.inl rfl) (tmX12_post e30) ?_
      refine pr_iload dX12_hour_232 rfl ?_
      refine pr_iadd dX12_hour_234 ?_
      obtain ⟨q31, e32, h⟩ := pm_bs h
      refine pr_callV (As := [pv_i z5, pv_i 5, pv_i (q29 + y4)]) (S := []) (t := 0) dX12_hour_235 mk_X12_144 lm_0 (ci := 12) (q := (RX12, TX12, 36)) rfl rfl rfl rfl (by decide) (by decide) (by decide) (Or.inl rfl) (tmX12_put e32) ?_
      refine pr_aload_n dX12_hour_238 rfl ?_
      refine pr_iload dX12_hour_239 rfl ?_
      refine pr_iconst dX12_hour_241 ?_
      obtain ⟨q33, e34, h⟩ := pm_bs h
      refine pr_callV (As := [pv_i z5, pv_i 5]) (S := []) (t := 0) dX12_hour_242 mk_X12_138 lm_0 (ci := 12) (q := (RX12, TX12, 36)) rfl rfl rfl rfl (by decide) (by decide) (by decide) (Or.inl rfl) (tmX12_post e34) ?_
      refine pr_bipush dX12_hour_245 (by decide) ?_
      refine pr_icmp_ge (tgt := 253) dX12_hour_247 rfl (wr_eq (by decide) (by decide)) (by decide) (fun c_35 => ?_) (fun c_35 => ?_)
      · have h := pm_pos c_35 h
        refine pr_aload_n dX12_hour_253 rfl ?_
        refine pr_iload dX12_hour_254 rfl ?_
        refine pr_iconst dX12_hour_256 ?_
        refine pr_iconst dX12_hour_257 ?_
        obtain ⟨q36, e37, h⟩ := pm_bs h
        refine pr_callV (As := [pv_i z5, pv_i 0, pv_i 2]) (S := []) (t := 0) dX12_hour_258 mk_X12_144 lm_0 (ci := 12) (q := (RX12, TX12, 36)) rfl rfl rfl rfl (by decide) (by decide) (by decide) (Or.inl rfl) (tmX12_put e37) ?_
        refine pr_aload_n dX12_hour_261 rfl ?_
        refine pr_iload dX12_hour_262 rfl ?_
        refine pr_bipush dX12_hour_264 (by decide) ?_
        refine pr_aload_n dX12_hour_266 rfl ?_
        refine pr_getR dX12_hour_267 lk_X12_86 lm_0 rfl ?_
        refine pr_sipush dX12_hour_270 (by decide) ?_
        refine pr_iald dX12_hour_273 lm_25 (wr_eq (by decide) (by decide)) ⟨by decide, by decide⟩ ?_
        obtain ⟨q38, e39, h⟩ := pm_bs h
        refine pr_callV (As := [pv_i z5, pv_i 6, pv_i (q36 25 (Int.toNat 751))]) (S := []) (t := 0) dX12_hour_274 mk_X12_144 lm_0 (ci := 12) (q := (RX12, TX12, 36)) rfl rfl rfl rfl (by decide) (by decide) (by decide) (Or.inl rfl) (tmX12_put e39) ?_
        refine pr_iinc dX12_hour_277 rfl (by decide) rfl ?_
        refine pr_goto (tgt := 194) dX12_hour_280 (by decide) ?_
        refine pr_weak (L2 := [some (pv_r 0), none, none, none, some (pv_i y4), some (pv_i (z5 + 1))]) ⟨Or.inr rfl, Or.inl rfl, Or.inl rfl, Or.inl rfl, Or.inr rfl, Or.inr rfl, trivial⟩ ?_
        exact hc _ (Option.some.inj h).symm
      · have h := pm_ng c_35 h
        refine pr_goto (tgt := 277) dX12_hour_250 (by decide) ?_
        refine pr_iinc dX12_hour_277 rfl (by decide) rfl ?_
        refine pr_goto (tgt := 194) dX12_hour_280 (by decide) ?_
        refine pr_weak (L2 := [some (pv_r 0), none, none, none, some (pv_i y4), some (pv_i (z5 + 1))]) ⟨Or.inr rfl, Or.inl rfl, Or.inl rfl, Or.inl rfl, Or.inr rfl, Or.inr rfl, trivial⟩ ?_
        exact hc _ (Option.some.inj h).symm
    · have h := pm_ng c_28 h
      refine pr_goto (tgt := 277) dX12_hour_218 (by decide) ?_
      refine pr_iinc dX12_hour_277 rfl (by decide) rfl ?_
      refine pr_goto (tgt := 194) dX12_hour_280 (by decide) ?_
      refine pr_weak (L2 := [some (pv_r 0), none, none, none, some (pv_i y4), some (pv_i (z5 + 1))]) ⟨Or.inr rfl, Or.inl rfl, Or.inl rfl, Or.inl rfl, Or.inr rfl, Or.inr rfl, trivial⟩ ?_
      exact hc _ (Option.some.inj h).symm
def bdX12_hour_286 (z5 : Int) (σ : pm_M) : Option ((Int × pm_M) ⊕ (Int × pm_M)) :=
  if (wr (σ 0 15)) ≤ (wr z5) then (some (.inl (z5, σ))) else ((fX12_age z5 σ).bind fun q43 => pm_g (0 ≤ (wr z5) ∧ (wr z5) < 40) (pm_g (0 ≤ (wr (σ 9 (Int.toNat (wr z5)))) ∧ (wr (σ 9 (Int.toNat (wr z5)))) < 9) (pm_g (0 ≤ (wr z5) ∧ (wr z5) < 40) (pm_g (0 ≤ (wr (σ 9 (Int.toNat (wr z5)))) ∧ (wr (σ 9 (Int.toNat (wr z5)))) < 9) (if (wr ((σ 3 (Int.toNat (wr (σ 9 (Int.toNat (wr z5)))))) + (σ 4 (Int.toNat (wr (σ 9 (Int.toNat (wr z5)))))))) < (wr q43) then (pm_g (0 ≤ (wr (40 + z5)) ∧ (wr (40 + z5)) < 755) (pm_g (0 ≤ (wr (0 + z5)) ∧ (wr (0 + z5)) < 755) (pm_g (0 ≤ (wr (40 + z5)) ∧ (wr (40 + z5)) < 755) (pm_g (0 ≤ (wr (0 + z5)) ∧ (wr (0 + z5)) < 755) (pm_g (0 ≤ (wr (0 + z5)) ∧ (wr (0 + z5)) < 755) (some (.inr ((z5 + 1), (pm_up (pm_up (pm_up σ 25 (Int.toNat (wr (40 + z5))) ((σ 25 (Int.toNat (wr (40 + z5)))) + (σ 25 (Int.toNat (wr (0 + z5)))))) 25 (Int.toNat 754) (((pm_up σ 25 (Int.toNat (wr (40 + z5))) ((σ 25 (Int.toNat (wr (40 + z5)))) + (σ 25 (Int.toNat (wr (0 + z5)))))) 25 (Int.toNat 754)) + ((pm_up σ 25 (Int.toNat (wr (40 + z5))) ((σ 25 (Int.toNat (wr (40 + z5)))) + (σ 25 (Int.toNat (wr (0 + z5)))))) 25 (Int.toNat (wr (0 + z5)))))) 25 (Int.toNat (wr (0 + z5))) 0))))))))) else (some (.inr ((z5 + 1), σ))))))))
set_option maxHeartbeats 4000000 in
set_option maxRecDepth 100000 in
theorem tbX12_hour_286 {lay0 lay' : List pm_S} {r : Option pm_V} {σ' : pm_M} : ∀ (a : Int × pm_M) (e : (Int × pm_M) ⊕ (Int × pm_M)), (fun a => bdX12_hour_286 a.1 a.2) a = some e → (∀ a, e = .inr a → (fun a => pm_J mX12_hour 4 94 lay0 r lay' σ' 286 [some (pv_r 0), none, none, none, none, some (pv_i a.1)] [] LAYM a.2) a) → (∀ a, e = .inl a → (fun a => pm_J mX12_hour 4 94 lay0 r lay' σ' 390 [none, none, none, none, none, none] [] LAYM a.2) a) → (fun a => pm_J mX12_hour 4 94 lay0 r lay' σ' 286 [some (pv_r 0), none, none, none, none, some (pv_i a.1)] [] LAYM a.2) a := by
  intro a e h hc hx
  obtain ⟨z5, σ⟩ := a
  have h : bdX12_hour_286 z5 σ = some e := h
  unfold bdX12_hour_286 at h
  show pm_J mX12_hour 4 94 lay0 r lay' σ' 286 [some (pv_r 0), none, none, none, none, some (pv_i z5)] [] LAYM σ
  refine pr_iload dX12_hour_286 rfl ?_
  refine pr_aload_n dX12_hour_288 rfl ?_
  refine pr_getI dX12_hour_289 lk_X12_115 lm_0 rfl ?_
  refine pr_icmp_ge (tgt := 390) dX12_hour_292 rfl rfl (by decide) (fun c_42 => ?_) (fun c_42 => ?_)
  · have h := pm_pos c_42 h
    refine pr_weak (L2 := [none, none, none, none, none, none]) ⟨Or.inl rfl, Or.inl rfl, Or.inl rfl, Or.inl rfl, Or.inl rfl, Or.inl rfl, trivial⟩ ?_
    exact hx _ (Option.some.inj h).symm
  · have h := pm_ng c_42 h
    refine pr_aload_n dX12_hour_295 rfl ?_
    refine pr_iload dX12_hour_296 rfl ?_
    obtain ⟨q43, e44, h⟩ := pm_bs h
    refine pr_callV (As := [pv_i z5]) (S := []) (t := 0) dX12_hour_298 mk_X12_118 lm_0 (ci := 12) (q := (RX12, TX12, 36)) rfl rfl rfl rfl (by decide) (by decide) (by decide) (Or.inl rfl) (tmX12_age e44) ?_
    refine pr_aload_n dX12_hour_301 rfl ?_
    refine pr_getR dX12_hour_302 lk_X12_16 lm_0 rfl ?_
    refine pr_aload_n dX12_hour_305 rfl ?_
    refine pr_getR dX12_hour_306 lk_X12_34 lm_0 rfl ?_
    refine pr_iload dX12_hour_309 rfl ?_
    obtain ⟨g_45, h⟩ := pm_gs h
    refine pr_iald dX12_hour_311 lm_9 rfl g_45 ?_
    obtain ⟨g_46, h⟩ := pm_gs h
    refine pr_iald dX12_hour_312 lm_3 rfl g_46 ?_
    refine pr_aload_n dX12_hour_313 rfl ?_
    refine pr_getR dX12_hour_314 lk_X12_19 lm_0 rfl ?_
    refine pr_aload_n dX12_hour_317 rfl ?_
    refine pr_getR dX12_hour_318 lk_X12_34 lm_0 rfl ?_
    refine pr_iload dX12_hour_321 rfl ?_
    obtain ⟨g_47, h⟩ := pm_gs h
    refine pr_iald dX12_hour_323 lm_9 rfl g_47 ?_
    obtain ⟨g_48, h⟩ := pm_gs h
    refine pr_iald dX12_hour_324 lm_4 rfl g_48 ?_
    refine pr_iadd dX12_hour_325 ?_
    refine pr_icmp_gt (tgt := 332) dX12_hour_326 rfl rfl (by decide) (fun c_49 => ?_) (fun c_49 => ?_)
    · have h := pm_pos c_49 h
      refine pr_aload_n dX12_hour_332 rfl ?_
      refine pr_getR dX12_hour_333 lk_X12_86 lm_0 rfl ?_
      refine pr_bipush dX12_hour_336 (by decide) ?_
      refine pr_iload dX12_hour_338 rfl ?_
      refine pr_iadd dX12_hour_340 ?_
      refine pr_dup2 dX12_hour_341 rfl rfl ?_
      obtain ⟨g_50, h⟩ := pm_gs h
      refine pr_iald dX12_hour_342 lm_25 rfl g_50 ?_
      refine pr_aload_n dX12_hour_343 rfl ?_
      refine pr_getR dX12_hour_344 lk_X12_86 lm_0 rfl ?_
      refine pr_iconst dX12_hour_347 ?_
      refine pr_iload dX12_hour_348 rfl ?_
      refine pr_iadd dX12_hour_350 ?_
      obtain ⟨g_51, h⟩ := pm_gs h
      refine pr_iald dX12_hour_351 lm_25 rfl g_51 ?_
      refine pr_iadd dX12_hour_352 ?_
      obtain ⟨g_52, h⟩ := pm_gs h
      refine pr_iast dX12_hour_353 lm_25 rfl g_52 ?_
      refine pr_aload_n dX12_hour_354 rfl ?_
      refine pr_getR dX12_hour_355 lk_X12_86 lm_0 rfl ?_
      refine pr_sipush dX12_hour_358 (by decide) ?_
      refine pr_dup2 dX12_hour_361 rfl rfl ?_
      refine pr_iald dX12_hour_362 lm_25 (wr_eq (by decide) (by decide)) ⟨by decide, by decide⟩ ?_
      refine pr_aload_n dX12_hour_363 rfl ?_
      refine pr_getR dX12_hour_364 lk_X12_86 lm_0 rfl ?_
      refine pr_iconst dX12_hour_367 ?_
      refine pr_iload dX12_hour_368 rfl ?_
      refine pr_iadd dX12_hour_370 ?_
      obtain ⟨g_53, h⟩ := pm_gs h
      refine pr_iald dX12_hour_371 lm_25 rfl g_53 ?_
      refine pr_iadd dX12_hour_372 ?_
      refine pr_iast dX12_hour_373 lm_25 (wr_eq (by decide) (by decide)) ⟨by decide, by decide⟩ ?_
      refine pr_aload_n dX12_hour_374 rfl ?_
      refine pr_getR dX12_hour_375 lk_X12_86 lm_0 rfl ?_
      refine pr_iconst dX12_hour_378 ?_
      refine pr_iload dX12_hour_379 rfl ?_
      refine pr_iadd dX12_hour_381 ?_
      refine pr_iconst dX12_hour_382 ?_
      obtain ⟨g_54, h⟩ := pm_gs h
      refine pr_iast dX12_hour_383 lm_25 rfl g_54 ?_
      refine pr_iinc dX12_hour_384 rfl (by decide) rfl ?_
      refine pr_goto (tgt := 286) dX12_hour_387 (by decide) ?_
      refine pr_weak (L2 := [some (pv_r 0), none, none, none, none, some (pv_i (z5 + 1))]) ⟨Or.inr rfl, Or.inl rfl, Or.inl rfl, Or.inl rfl, Or.inl rfl, Or.inr rfl, trivial⟩ ?_
      exact hc _ (Option.some.inj h).symm
    · have h := pm_ng c_49 h
      refine pr_goto (tgt := 384) dX12_hour_329 (by decide) ?_
      refine pr_iinc dX12_hour_384 rfl (by decide) rfl ?_
      refine pr_goto (tgt := 286) dX12_hour_387 (by decide) ?_
      refine pr_weak (L2 := [some (pv_r 0), none, none, none, none, some (pv_i (z5 + 1))]) ⟨Or.inr rfl, Or.inl rfl, Or.inl rfl, Or.inl rfl, Or.inl rfl, Or.inr rfl, trivial⟩ ?_
      exact hc _ (Option.some.inj h).symm
def jnX12_hour_189 (u0 : Int) (σ : pm_M) : Option (pm_M) :=
  (pm_it (fun a => bdX12_hour_194 u0 a.1 a.2) pm_fuel (0, σ)).bind fun v40 => (pm_it (fun a => bdX12_hour_286 a.1 a.2) pm_fuel (0, v40.2)).bind fun v55 => some v55.2
set_option maxHeartbeats 4000000 in
set_option maxRecDepth 100000 in
theorem tjX12_hour_189 {lay0 : List pm_S} {u0 : Int} {σ : pm_M} {ρ : pm_M} (h : jnX12_hour_189 u0 σ = some ρ) : pm_J mX12_hour 4 94 lay0 none LAYM ρ 189 [some (pv_r 0), none, none, none, none, none] [pv_i u0] LAYM σ := by
  unfold jnX12_hour_189 at h
  refine pr_istore dX12_hour_189 (by decide) rfl ?_
  refine pr_iconst dX12_hour_191 ?_
  refine pr_istore dX12_hour_192 (by decide) rfl ?_
  obtain ⟨v40, e41, h⟩ := pm_bs h
  refine pr_weak (L2 := [some (pv_r 0), none, none, none, some (pv_i u0), some (pv_i 0)]) ⟨Or.inr rfl, Or.inl rfl, Or.inl rfl, Or.inl rfl, Or.inr rfl, Or.inr rfl, trivial⟩ ?_
  refine pm_it_J (P := fun a => pm_J mX12_hour 4 94 lay0 none LAYM ρ 194 [some (pv_r 0), none, none, none, some (pv_i u0), some (pv_i a.1)] [] LAYM a.2) (Rx := fun a => pm_J mX12_hour 4 94 lay0 none LAYM ρ 283 [some (pv_r 0), none, none, none, none, none] [] LAYM a.2) (tbX12_hour_194 u0) _ _ _ e41 ?_
  show pm_J mX12_hour 4 94 lay0 none LAYM ρ 283 [some (pv_r 0), none, none, none, none, none] [] LAYM v40.2
  refine pr_iconst dX12_hour_283 ?_
  refine pr_istore dX12_hour_284 (by decide) rfl ?_
  obtain ⟨v55, e56, h⟩ := pm_bs h
  refine pr_weak (L2 := [some (pv_r 0), none, none, none, none, some (pv_i 0)]) ⟨Or.inr rfl, Or.inl rfl, Or.inl rfl, Or.inl rfl, Or.inl rfl, Or.inr rfl, trivial⟩ ?_
  refine pm_it_J (P := fun a => pm_J mX12_hour 4 94 lay0 none LAYM ρ 286 [some (pv_r 0), none, none, none, none, some (pv_i a.1)] [] LAYM a.2) (Rx := fun a => pm_J mX12_hour 4 94 lay0 none LAYM ρ 390 [none, none, none, none, none, none] [] LAYM a.2) (tbX12_hour_286) _ _ _ e56 ?_
  show pm_J mX12_hour 4 94 lay0 none LAYM ρ 390 [none, none, none, none, none, none] [] LAYM v55.2
  have h := Option.some.inj h
  subst h
  exact pr_vret dX12_hour_390 rfl
def jnX12_hour_100 (w1 : Int) (w2 : Int) (σ : pm_M) : Option (pm_M) :=
  (fX12_inState 1 σ).bind fun q9 => (pm_it (fun a => bdX12_hour_109 w1 w2 a.1 a.2.1 a.2.2) pm_fuel (q9, 0, σ)).bind fun v20 => if (wr w2) = 0 then ((fX12_reckoned w1 1 v20.2.2).bind fun q23 => jnX12_hour_189 q23 v20.2.2) else (jnX12_hour_189 0 v20.2.2)
set_option maxHeartbeats 4000000 in
set_option maxRecDepth 100000 in
theorem tjX12_hour_100 {lay0 : List pm_S} {w1 : Int} {w2 : Int} {σ : pm_M} {ρ : pm_M} (h : jnX12_hour_100 w1 w2 σ = some ρ) : pm_J mX12_hour 4 94 lay0 none LAYM ρ 100 [some (pv_r 0), some (pv_i w1), some (pv_i w2), none, none, none] [] LAYM σ := by
  unfold jnX12_hour_100 at h
  refine pr_aload_n dX12_hour_100 rfl ?_
  refine pr_iconst dX12_hour_101 ?_
  obtain ⟨q9, e10, h⟩ := pm_bs h
  refine pr_callV (As := [pv_i 1]) (S := []) (t := 0) dX12_hour_102 mk_X12_193 lm_0 (ci := 12) (q := (RX12, TX12, 36)) rfl rfl rfl rfl (by decide) (by decide) (by decide) (Or.inl rfl) (tmX12_inState e10) ?_
  refine pr_istore_n dX12_hour_105 (by decide) rfl ?_
  refine pr_iconst dX12_hour_106 ?_
  refine pr_istore dX12_hour_107 (by decide) rfl ?_
  obtain ⟨v20, e21, h⟩ := pm_bs h
  refine pr_weak (L2 := [some (pv_r 0), some (pv_i w1), some (pv_i w2), some (pv_i q9), some (pv_i 0), none]) ⟨Or.inr rfl, Or.inr rfl, Or.inr rfl, Or.inr rfl, Or.inr rfl, Or.inl rfl, trivial⟩ ?_
  refine pm_it_J (P := fun a => pm_J mX12_hour 4 94 lay0 none LAYM ρ 109 [some (pv_r 0), some (pv_i w1), some (pv_i w2), some (pv_i a.1), some (pv_i a.2.1), none] [] LAYM a.2.2) (Rx := fun a => pm_J mX12_hour 4 94 lay0 none LAYM ρ 175 [some (pv_r 0), some (pv_i w1), some (pv_i w2), none, none, none] [] LAYM a.2.2) (tbX12_hour_109 w1 w2) _ _ _ e21 ?_
  show pm_J mX12_hour 4 94 lay0 none LAYM ρ 175 [some (pv_r 0), some (pv_i w1), some (pv_i w2), none, none, none] [] LAYM v20.2.2
  refine pr_iload_n dX12_hour_175 rfl ?_
  refine pr_if_eq (tgt := 183) dX12_hour_176 rfl (by decide) (fun c_22 => ?_) (fun c_22 => ?_)
  · have h := pm_pos c_22 h
    refine pr_aload_n dX12_hour_183 rfl ?_
    refine pr_iload_n dX12_hour_184 rfl ?_
    refine pr_iconst dX12_hour_185 ?_
    obtain ⟨q23, e24, h⟩ := pm_bs h
    refine pr_callV (As := [pv_i w1, pv_i 1]) (S := []) (t := 0) dX12_hour_186 mk_X12_107 lm_0 (ci := 12) (q := (RX12, TX12, 36)) rfl rfl rfl rfl (by decide) (by decide) (by decide) (Or.inl rfl) (tmX12_reckoned e24) ?_
    refine pr_weak (L2 := [some (pv_r 0), none, none, none, none, none]) ⟨Or.inr rfl, Or.inl rfl, Or.inl rfl, Or.inl rfl, Or.inl rfl, Or.inl rfl, trivial⟩ ?_
    exact tjX12_hour_189 h
  · have h := pm_ng c_22 h
    refine pr_iconst dX12_hour_179 ?_
    refine pr_goto (tgt := 189) dX12_hour_180 (by decide) ?_
    refine pr_weak (L2 := [some (pv_r 0), none, none, none, none, none]) ⟨Or.inr rfl, Or.inl rfl, Or.inl rfl, Or.inl rfl, Or.inl rfl, Or.inl rfl, trivial⟩ ?_
    exact tjX12_hour_189 h
def bdX12_hour_46 (y1 : Int) (y2 : Int) (z3 : Int) (σ : pm_M) : Option ((Int × pm_M) ⊕ (Int × pm_M)) :=
  if 3 ≤ (wr z3) then (some (.inl (z3, σ))) else (pm_g (0 ≤ (wr ((105 + (2 * z3)) + 1)) ∧ (wr ((105 + (2 * z3)) + 1)) < 755) (pm_g (0 ≤ (wr z3) ∧ (wr z3) < 3) (if 0 ≤ (wr (σ 14 (Int.toNat (wr z3)))) then (pm_g (0 ≤ (wr ((105 + (2 * z3)) + 1)) ∧ (wr ((105 + (2 * z3)) + 1)) < 755) (some (.inr ((z3 + 1), (pm_up σ 25 (Int.toNat (wr ((105 + (2 * z3)) + 1))) ((σ 25 (Int.toNat (wr ((105 + (2 * z3)) + 1)))) + 1)))))) else (pm_g (0 ≤ (wr ((105 + (2 * z3)) + 1)) ∧ (wr ((105 + (2 * z3)) + 1)) < 755) (some (.inr ((z3 + 1), (pm_up σ 25 (Int.toNat (wr ((105 + (2 * z3)) + 1))) ((σ 25 (Int.toNat (wr ((105 + (2 * z3)) + 1)))) + 0)))))))))
set_option maxHeartbeats 4000000 in
set_option maxRecDepth 100000 in
theorem tbX12_hour_46 {lay0 lay' : List pm_S} {r : Option pm_V} {σ' : pm_M} (y1 : Int) (y2 : Int) : ∀ (a : Int × pm_M) (e : (Int × pm_M) ⊕ (Int × pm_M)), (fun a => bdX12_hour_46 y1 y2 a.1 a.2) a = some e → (∀ a, e = .inr a → (fun a => pm_J mX12_hour 4 94 lay0 r lay' σ' 46 [some (pv_r 0), some (pv_i y1), some (pv_i y2), some (pv_i a.1), none, none] [] LAYM a.2) a) → (∀ a, e = .inl a → (fun a => pm_J mX12_hour 4 94 lay0 r lay' σ' 87 [some (pv_r 0), some (pv_i y1), some (pv_i y2), none, none, none] [] LAYM a.2) a) → (fun a => pm_J mX12_hour 4 94 lay0 r lay' σ' 46 [some (pv_r 0), some (pv_i y1), some (pv_i y2), some (pv_i a.1), none, none] [] LAYM a.2) a := by
  intro a e h hc hx
  obtain ⟨z3, σ⟩ := a
  have h : bdX12_hour_46 y1 y2 z3 σ = some e := h
  unfold bdX12_hour_46 at h
  show pm_J mX12_hour 4 94 lay0 r lay' σ' 46 [some (pv_r 0), some (pv_i y1), some (pv_i y2), some (pv_i z3), none, none] [] LAYM σ
  refine pr_iload_n dX12_hour_46 rfl ?_
  refine pr_iconst dX12_hour_47 ?_
  refine pr_icmp_ge (tgt := 87) dX12_hour_48 rfl (wr_eq (by decide) (by decide)) (by decide) (fun c_57 => ?_) (fun c_57 => ?_)
  · have h := pm_pos c_57 h
    refine pr_weak (L2 := [some (pv_r 0), some (pv_i y1), some (pv_i y2), none, none, none]) ⟨Or.inr rfl, Or.inr rfl, Or.inr rfl, Or.inl rfl, Or.inl rfl, Or.inl rfl, trivial⟩ ?_
    exact hx _ (Option.some.inj h).symm
  · have h := pm_ng c_57 h
    refine pr_aload_n dX12_hour_51 rfl ?_
    refine pr_getR dX12_hour_52 lk_X12_86 lm_0 rfl ?_
    refine pr_bipush dX12_hour_55 (by decide) ?_
    refine pr_iconst dX12_hour_57 ?_
    refine pr_iload_n dX12_hour_58 rfl ?_
    refine pr_imul dX12_hour_59 ?_
    refine pr_iadd dX12_hour_60 ?_
    refine pr_iconst dX12_hour_61 ?_
    refine pr_iadd dX12_hour_62 ?_
    refine pr_dup2 dX12_hour_63 rfl rfl ?_
    obtain ⟨g_58, h⟩ := pm_gs h
    refine pr_iald dX12_hour_64 lm_25 rfl g_58 ?_
    refine pr_aload_n dX12_hour_65 rfl ?_
    refine pr_getR dX12_hour_66 lk_X12_49 lm_0 rfl ?_
    refine pr_iload_n dX12_hour_69 rfl ?_
    obtain ⟨g_59, h⟩ := pm_gs h
    refine pr_iald dX12_hour_70 lm_14 rfl g_59 ?_
    refine pr_if_ge (tgt := 78) dX12_hour_71 rfl (by decide) (fun c_60 => ?_) (fun c_60 => ?_)
    · have h := pm_pos c_60 h
      refine pr_iconst dX12_hour_78 ?_
      refine pr_iadd dX12_hour_79 ?_
      obtain ⟨g_61, h⟩ := pm_gs h
      refine pr_iast dX12_hour_80 lm_25 rfl g_61 ?_
      refine pr_iinc dX12_hour_81 rfl (by decide) rfl ?_
      refine pr_goto (tgt := 46) dX12_hour_84 (by decide) ?_
      refine pr_weak (L2 := [some (pv_r 0), some (pv_i y1), some (pv_i y2), some (pv_i (z3 + 1)), none, none]) ⟨Or.inr rfl, Or.inr rfl, Or.inr rfl, Or.inr rfl, Or.inl rfl, Or.inl rfl, trivial⟩ ?_
      exact hc _ (Option.some.inj h).symm
    · have h := pm_ng c_60 h
      refine pr_iconst dX12_hour_74 ?_
      refine pr_goto (tgt := 79) dX12_hour_75 (by decide) ?_
      refine pr_iadd dX12_hour_79 ?_
      obtain ⟨g_62, h⟩ := pm_gs h
      refine pr_iast dX12_hour_80 lm_25 rfl g_62 ?_
      refine pr_iinc dX12_hour_81 rfl (by decide) rfl ?_
      refine pr_goto (tgt := 46) dX12_hour_84 (by decide) ?_
      refine pr_weak (L2 := [some (pv_r 0), some (pv_i y1), some (pv_i y2), some (pv_i (z3 + 1)), none, none]) ⟨Or.inr rfl, Or.inr rfl, Or.inr rfl, Or.inr rfl, Or.inl rfl, Or.inl rfl, trivial⟩ ?_
      exact hc _ (Option.some.inj h).symm
def jnX12_hour_39 (w1 : Int) (u0 : Int) (σ : pm_M) : Option (pm_M) :=
  if (wr u0) = 0 then ((fX12_reckoned w1 0 σ).bind fun q5 => (fX12_works q5 σ).bind fun q7 => jnX12_hour_100 w1 u0 q7) else ((pm_it (fun a => bdX12_hour_46 w1 u0 a.1 a.2) pm_fuel (0, σ)).bind fun v63 => jnX12_hour_100 w1 u0 v63.2)
set_option maxHeartbeats 4000000 in
set_option maxRecDepth 100000 in
theorem tjX12_hour_39 {lay0 : List pm_S} {w1 : Int} {u0 : Int} {σ : pm_M} {ρ : pm_M} (h : jnX12_hour_39 w1 u0 σ = some ρ) : pm_J mX12_hour 4 94 lay0 none LAYM ρ 39 [some (pv_r 0), some (pv_i w1), none, none, none, none] [pv_i u0] LAYM σ := by
  unfold jnX12_hour_39 at h
  refine pr_istore_n dX12_hour_39 (by decide) rfl ?_
  refine pr_iload_n dX12_hour_40 rfl ?_
  refine pr_if_eq (tgt := 90) dX12_hour_41 rfl (by decide) (fun c_4 => ?_) (fun c_4 => ?_)
  · have h := pm_pos c_4 h
    refine pr_aload_n dX12_hour_90 rfl ?_
    refine pr_aload_n dX12_hour_91 rfl ?_
    refine pr_iload_n dX12_hour_92 rfl ?_
    refine pr_iconst dX12_hour_93 ?_
    obtain ⟨q5, e6, h⟩ := pm_bs h
    refine pr_callV (As := [pv_i w1, pv_i 0]) (S := [pv_r 0]) (t := 0) dX12_hour_94 mk_X12_107 lm_0 (ci := 12) (q := (RX12, TX12, 36)) rfl rfl rfl rfl (by decide) (by decide) (by decide) (Or.inl rfl) (tmX12_reckoned e6) ?_
    obtain ⟨q7, e8, h⟩ := pm_bs h
    refine pr_callV (As := [pv_i q5]) (S := []) (t := 0) dX12_hour_97 mk_X12_190 lm_0 (ci := 12) (q := (RX12, TX12, 36)) rfl rfl rfl rfl (by decide) (by decide) (by decide) (Or.inl rfl) (tmX12_works e8) ?_
    refine pr_weak (L2 := [some (pv_r 0), some (pv_i w1), some (pv_i u0), none, none, none]) ⟨Or.inr rfl, Or.inr rfl, Or.inr rfl, Or.inl rfl, Or.inl rfl, Or.inl rfl, trivial⟩ ?_
    exact tjX12_hour_100 h
  · have h := pm_ng c_4 h
    refine pr_iconst dX12_hour_44 ?_
    refine pr_istore_n dX12_hour_45 (by decide) rfl ?_
    obtain ⟨v63, e64, h⟩ := pm_bs h
    refine pr_weak (L2 := [some (pv_r 0), some (pv_i w1), some (pv_i u0), some (pv_i 0), none, none]) ⟨Or.inr rfl, Or.inr rfl, Or.inr rfl, Or.inr rfl, Or.inl rfl, Or.inl rfl, trivial⟩ ?_
    refine pm_it_J (P := fun a => pm_J mX12_hour 4 94 lay0 none LAYM ρ 46 [some (pv_r 0), some (pv_i w1), some (pv_i u0), some (pv_i a.1), none, none] [] LAYM a.2) (Rx := fun a => pm_J mX12_hour 4 94 lay0 none LAYM ρ 87 [some (pv_r 0), some (pv_i w1), some (pv_i u0), none, none, none] [] LAYM a.2) (tbX12_hour_46 w1 u0) _ _ _ e64 ?_
    show pm_J mX12_hour 4 94 lay0 none LAYM ρ 87 [some (pv_r 0), some (pv_i w1), some (pv_i u0), none, none, none] [] LAYM v63.2
    refine pr_goto (tgt := 100) dX12_hour_87 (by decide) ?_
    refine pr_weak (L2 := [some (pv_r 0), some (pv_i w1), some (pv_i u0), none, none, none]) ⟨Or.inr rfl, Or.inr rfl, Or.inr rfl, Or.inl rfl, Or.inl rfl, Or.inl rfl, trivial⟩ ?_
    exact tjX12_hour_100 h
def fX12_hour (σ : pm_M) : Option (pm_M) :=
  (fX12_reckoned (Int.tdiv (wr (σ 25 (Int.toNat 751))) 24) 2 (pm_up σ 25 (Int.toNat 751) ((σ 25 (Int.toNat 751)) + 1))).bind fun q1 => if (wr q1) = 1 then (jnX12_hour_39 (Int.tdiv (wr (σ 25 (Int.toNat 751))) 24) 1 (pm_up σ 25 (Int.toNat 751) ((σ 25 (Int.toNat 751)) + 1))) else (jnX12_hour_39 (Int.tdiv (wr (σ 25 (Int.toNat 751))) 24) 0 (pm_up σ 25 (Int.toNat 751) ((σ 25 (Int.toNat 751)) + 1)))
set_option maxHeartbeats 4000000 in
set_option maxRecDepth 100000 in
theorem tmX12_hour {σ : pm_M} {ρ : pm_M} (h : fX12_hour σ = some ρ) : pm_C mX12_hour 4 94 [pv_r 0] LAYM σ none LAYM ρ := by
  refine pm_C.of rfl rfl (by decide) ?_
  show pm_J mX12_hour 4 94 LAYM none LAYM ρ 0 [some (pv_r 0), none, none, none, none, none] [] LAYM σ
  unfold fX12_hour at h
  refine pr_aload_n dX12_hour_0 rfl ?_
  refine pr_getR dX12_hour_1 lk_X12_86 lm_0 rfl ?_
  refine pr_sipush dX12_hour_4 (by decide) ?_
  refine pr_iald dX12_hour_7 lm_25 (wr_eq (by decide) (by decide)) ⟨by decide, by decide⟩ ?_
  refine pr_bipush dX12_hour_8 (by decide) ?_
  refine pr_idiv dX12_hour_10 rfl (wr_eq (by decide) (by decide)) (by decide) ?_
  refine pr_istore_n dX12_hour_11 (by decide) rfl ?_
  refine pr_aload_n dX12_hour_12 rfl ?_
  refine pr_getR dX12_hour_13 lk_X12_86 lm_0 rfl ?_
  refine pr_sipush dX12_hour_16 (by decide) ?_
  refine pr_dup2 dX12_hour_19 rfl rfl ?_
  refine pr_iald dX12_hour_20 lm_25 (wr_eq (by decide) (by decide)) ⟨by decide, by decide⟩ ?_
  refine pr_iconst dX12_hour_21 ?_
  refine pr_iadd dX12_hour_22 ?_
  refine pr_iast dX12_hour_23 lm_25 (wr_eq (by decide) (by decide)) ⟨by decide, by decide⟩ ?_
  refine pr_aload_n dX12_hour_24 rfl ?_
  refine pr_iload_n dX12_hour_25 rfl ?_
  refine pr_iconst dX12_hour_26 ?_
  obtain ⟨q1, e2, h⟩ := pm_bs h
  refine pr_callV (As := [pv_i (Int.tdiv (wr (σ 25 (Int.toNat 751))) 24), pv_i 2]) (S := []) (t := 0) dX12_hour_27 mk_X12_107 lm_0 (ci := 12) (q := (RX12, TX12, 36)) rfl rfl rfl rfl (by decide) (by decide) (by decide) (Or.inl rfl) (tmX12_reckoned e2) ?_
  refine pr_iconst dX12_hour_30 ?_
  refine pr_icmp_ne (tgt := 38) dX12_hour_31 rfl (wr_eq (by decide) (by decide)) (by decide) (fun c_3 => ?_) (fun c_3 => ?_)
  · have h := pm_ng c_3 h
    refine pr_iconst dX12_hour_38 ?_
    refine pr_weak (L2 := [some (pv_r 0), some (pv_i (Int.tdiv (wr (σ 25 (Int.toNat 751))) 24)), none, none, none, none]) ⟨Or.inr rfl, Or.inr rfl, Or.inl rfl, Or.inl rfl, Or.inl rfl, Or.inl rfl, trivial⟩ ?_
    exact tjX12_hour_39 h
  · have h := pm_pos c_3 h
    refine pr_iconst dX12_hour_34 ?_
    refine pr_goto (tgt := 39) dX12_hour_35 (by decide) ?_
    refine pr_weak (L2 := [some (pv_r 0), some (pv_i (Int.tdiv (wr (σ 25 (Int.toNat 751))) 24)), none, none, none, none]) ⟨Or.inr rfl, Or.inr rfl, Or.inl rfl, Or.inl rfl, Or.inl rfl, Or.inl rfl, trivial⟩ ?_
    exact tjX12_hour_39 h
