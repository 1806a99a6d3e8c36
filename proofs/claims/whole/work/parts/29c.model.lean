def fX12_age (x1 : Int) (σ : pm_M) : Option (Int) :=
  pm_g (0 ≤ (wr x1) ∧ (wr x1) < 40) (some (Int.tdiv (wr ((σ 25 (Int.toNat 751)) - (σ 10 (Int.toNat (wr x1))))) 24))
set_option maxHeartbeats 4000000 in
set_option maxRecDepth 100000 in
theorem tmX12_age {x1 : Int} {σ : pm_M} {ρ : Int} (h : fX12_age x1 σ = some ρ) : pm_C mX12_age 0 0 [pv_r 0, pv_i x1] LAYM σ (some (pv_i ρ)) LAYM σ := by
  refine pm_C.of (by decide) rfl (Nat.le_of_ble_eq_true rfl) ?_
  show pm_J mX12_age 0 0 LAYM (some (pv_i ρ)) LAYM σ 0 [some (pv_r 0), some (pv_i x1)] [] LAYM σ
  unfold fX12_age at h
  refine pr_aload_n dX12_age_0 rfl ?_
  refine pr_getR dX12_age_1 lk_X12_86 lm_0 rfl ?_
  refine pr_sipush dX12_age_4 (by decide) ?_
  refine pr_iald dX12_age_7 lm_25 (wr_eq (by decide) (by decide)) ⟨by decide, by decide⟩ ?_
  refine pr_aload_n dX12_age_8 rfl ?_
  refine pr_getR dX12_age_9 lk_X12_37 lm_0 rfl ?_
  refine pr_iload_n dX12_age_12 rfl ?_
  obtain ⟨g_1, h⟩ := pm_gs h
  refine pr_iald dX12_age_13 lm_10 rfl g_1 ?_
  refine pr_isub dX12_age_14 ?_
  refine pr_bipush dX12_age_15 (by decide) ?_
  refine pr_idiv dX12_age_17 rfl (wr_eq (by decide) (by decide)) (by decide) ?_
  have h := Option.some.inj h
  subst h
  exact pr_iret dX12_age_18 rfl
def fX12_isRipe (x1 : Int) (σ : pm_M) : Option (Int) :=
  pm_g (0 ≤ (wr (0 + x1)) ∧ (wr (0 + x1)) < 755) (if (wr (σ 25 (Int.toNat (wr (0 + x1))))) ≤ 0 then (some 0) else ((fX12_age x1 σ).bind fun q3 => pm_g (0 ≤ (wr x1) ∧ (wr x1) < 40) (pm_g (0 ≤ (wr (σ 9 (Int.toNat (wr x1)))) ∧ (wr (σ 9 (Int.toNat (wr x1)))) < 9) (if (wr q3) < (wr (σ 3 (Int.toNat (wr (σ 9 (Int.toNat (wr x1))))))) then (some 0) else (some 1)))))
set_option maxHeartbeats 4000000 in
set_option maxRecDepth 100000 in
theorem tmX12_isRipe {x1 : Int} {σ : pm_M} {ρ : Int} (h : fX12_isRipe x1 σ = some ρ) : pm_C mX12_isRipe 1 21 [pv_r 0, pv_i x1] LAYM σ (some (pv_i ρ)) LAYM σ := by
  refine pm_C.of (by decide) rfl (Nat.le_of_ble_eq_true rfl) ?_
  show pm_J mX12_isRipe 1 21 LAYM (some (pv_i ρ)) LAYM σ 0 [some (pv_r 0), some (pv_i x1)] [] LAYM σ
  unfold fX12_isRipe at h
  refine pr_aload_n dX12_isRipe_0 rfl ?_
  refine pr_getR dX12_isRipe_1 lk_X12_86 lm_0 rfl ?_
  refine pr_iconst dX12_isRipe_4 ?_
  refine pr_iload_n dX12_isRipe_5 rfl ?_
  refine pr_iadd dX12_isRipe_6 ?_
  obtain ⟨g_1, h⟩ := pm_gs h
  refine pr_iald dX12_isRipe_7 lm_25 rfl g_1 ?_
  refine pr_if_le (tgt := 34) dX12_isRipe_8 rfl (by decide) (fun c_2 => ?_) (fun c_2 => ?_)
  · have h := pm_pos c_2 h
    refine pr_iconst dX12_isRipe_34 ?_
    have h := Option.some.inj h
    subst h
    exact pr_zret dX12_isRipe_35 rfl (Or.inl rfl)
  · have h := pm_ng c_2 h
    refine pr_aload_n dX12_isRipe_11 rfl ?_
    refine pr_iload_n dX12_isRipe_12 rfl ?_
    obtain ⟨q3, e4, h⟩ := pm_bs h
    refine pr_callV (As := [pv_i x1]) (S := []) (t := 0) dX12_isRipe_13 mk_X12_118 lm_0 (ci := 12) (q := (RX12, TX12, 36)) rfl rfl rfl rfl (Nat.le_of_ble_eq_true rfl) (by decide) (by decide) (Or.inl rfl) (tmX12_age e4) ?_
    refine pr_aload_n dX12_isRipe_16 rfl ?_
    refine pr_getR dX12_isRipe_17 lk_X12_16 lm_0 rfl ?_
    refine pr_aload_n dX12_isRipe_20 rfl ?_
    refine pr_getR dX12_isRipe_21 lk_X12_34 lm_0 rfl ?_
    refine pr_iload_n dX12_isRipe_24 rfl ?_
    obtain ⟨g_5, h⟩ := pm_gs h
    refine pr_iald dX12_isRipe_25 lm_9 rfl g_5 ?_
    obtain ⟨g_6, h⟩ := pm_gs h
    refine pr_iald dX12_isRipe_26 lm_3 rfl g_6 ?_
    refine pr_icmp_lt (tgt := 34) dX12_isRipe_27 rfl rfl (by decide) (fun c_7 => ?_) (fun c_7 => ?_)
    · have h := pm_pos c_7 h
      refine pr_iconst dX12_isRipe_34 ?_
      have h := Option.some.inj h
      subst h
      exact pr_zret dX12_isRipe_35 rfl (Or.inl rfl)
    · have h := pm_ng c_7 h
      refine pr_iconst dX12_isRipe_30 ?_
      refine pr_goto (tgt := 35) dX12_isRipe_31 (by decide) ?_
      have h := Option.some.inj h
      subst h
      exact pr_zret dX12_isRipe_35 rfl (Or.inr rfl)
def fX12_load (x1 : Int) (x2 : Int) (x3 : Int) (σ : pm_M) : Option (Int × pm_M) :=
  (fX12_isIn x1 4).bind fun q1 => if (wr q1) = 0 then ((fX12_refuse (-1) σ).bind fun q4 => some (q4.1, q4.2)) else ((fX12_isIn x2 (σ 0 15)).bind fun q6 => if (wr q6) = 0 then ((fX12_refuse (-1) σ).bind fun q34 => some (q34.1, q34.2)) else (pm_g (0 ≤ (wr (80 + (4 * x1))) ∧ (wr (80 + (4 * x1))) < 755) (if 0 < (wr (σ 25 (Int.toNat (wr (80 + (4 * x1)))))) then ((fX12_refuse (-3) σ).bind fun q11 => some (q11.1, q11.2)) else ((fX12_isRipe x2 σ).bind fun q13 => if (wr q13) = 0 then ((fX12_refuse (-3) σ).bind fun q32 => some (q32.1, q32.2)) else (pm_g (0 ≤ (wr (0 + x2)) ∧ (wr (0 + x2)) < 755) ((fX12_wrong x3 1 (pm_min 100 (σ 25 (Int.toNat (wr (0 + x2)))))).bind fun q17 => if (wr q17) = 0 then (pm_g (0 ≤ (wr (0 + x2)) ∧ (wr (0 + x2)) < 755) (pm_g (0 ≤ (wr (0 + x2)) ∧ (wr (0 + x2)) < 755) (pm_g (0 ≤ (wr (80 + (4 * x1))) ∧ (wr (80 + (4 * x1))) < 755) (pm_g (0 ≤ (wr x2) ∧ (wr x2) < 40) (pm_g (0 ≤ (wr ((80 + (4 * x1)) + 1)) ∧ (wr ((80 + (4 * x1)) + 1)) < 755) (pm_g (0 ≤ (wr x2) ∧ (wr x2) < 40) (pm_g (0 ≤ (wr ((pm_up (pm_up (pm_up σ 25 (Int.toNat (wr (0 + x2))) ((σ 25 (Int.toNat (wr (0 + x2)))) - x3)) 25 (Int.toNat (wr (80 + (4 * x1)))) x3) 25 (Int.toNat (wr ((80 + (4 * x1)) + 1))) ((pm_up (pm_up σ 25 (Int.toNat (wr (0 + x2))) ((σ 25 (Int.toNat (wr (0 + x2)))) - x3)) 25 (Int.toNat (wr (80 + (4 * x1)))) x3) 9 (Int.toNat (wr x2)))) 9 (Int.toNat (wr x2)))) ∧ (wr ((pm_up (pm_up (pm_up σ 25 (Int.toNat (wr (0 + x2))) ((σ 25 (Int.toNat (wr (0 + x2)))) - x3)) 25 (Int.toNat (wr (80 + (4 * x1)))) x3) 25 (Int.toNat (wr ((80 + (4 * x1)) + 1))) ((pm_up (pm_up σ 25 (Int.toNat (wr (0 + x2))) ((σ 25 (Int.toNat (wr (0 + x2)))) - x3)) 25 (Int.toNat (wr (80 + (4 * x1)))) x3) 9 (Int.toNat (wr x2)))) 9 (Int.toNat (wr x2)))) < 9) (pm_g (0 ≤ (wr ((80 + (4 * x1)) + 2)) ∧ (wr ((80 + (4 * x1)) + 2)) < 755) (pm_g (0 ≤ (wr x2) ∧ (wr x2) < 40) (pm_g (0 ≤ (wr ((pm_up (pm_up (pm_up (pm_up σ 25 (Int.toNat (wr (0 + x2))) ((σ 25 (Int.toNat (wr (0 + x2)))) - x3)) 25 (Int.toNat (wr (80 + (4 * x1)))) x3) 25 (Int.toNat (wr ((80 + (4 * x1)) + 1))) ((pm_up (pm_up σ 25 (Int.toNat (wr (0 + x2))) ((σ 25 (Int.toNat (wr (0 + x2)))) - x3)) 25 (Int.toNat (wr (80 + (4 * x1)))) x3) 9 (Int.toNat (wr x2)))) 25 (Int.toNat (wr ((80 + (4 * x1)) + 2))) ((pm_up (pm_up (pm_up σ 25 (Int.toNat (wr (0 + x2))) ((σ 25 (Int.toNat (wr (0 + x2)))) - x3)) 25 (Int.toNat (wr (80 + (4 * x1)))) x3) 25 (Int.toNat (wr ((80 + (4 * x1)) + 1))) ((pm_up (pm_up σ 25 (Int.toNat (wr (0 + x2))) ((σ 25 (Int.toNat (wr (0 + x2)))) - x3)) 25 (Int.toNat (wr (80 + (4 * x1)))) x3) 9 (Int.toNat (wr x2)))) 5 (Int.toNat (wr ((pm_up (pm_up (pm_up σ 25 (Int.toNat (wr (0 + x2))) ((σ 25 (Int.toNat (wr (0 + x2)))) - x3)) 25 (Int.toNat (wr (80 + (4 * x1)))) x3) 25 (Int.toNat (wr ((80 + (4 * x1)) + 1))) ((pm_up (pm_up σ 25 (Int.toNat (wr (0 + x2))) ((σ 25 (Int.toNat (wr (0 + x2)))) - x3)) 25 (Int.toNat (wr (80 + (4 * x1)))) x3) 9 (Int.toNat (wr x2)))) 9 (Int.toNat (wr x2))))))) 9 (Int.toNat (wr x2)))) ∧ (wr ((pm_up (pm_up (pm_up (pm_up σ 25 (Int.toNat (wr (0 + x2))) ((σ 25 (Int.toNat (wr (0 + x2)))) - x3)) 25 (Int.toNat (wr (80 + (4 * x1)))) x3) 25 (Int.toNat (wr ((80 + (4 * x1)) + 1))) ((pm_up (pm_up σ 25 (Int.toNat (wr (0 + x2))) ((σ 25 (Int.toNat (wr (0 + x2)))) - x3)) 25 (Int.toNat (wr (80 + (4 * x1)))) x3) 9 (Int.toNat (wr x2)))) 25 (Int.toNat (wr ((80 + (4 * x1)) + 2))) ((pm_up (pm_up (pm_up σ 25 (Int.toNat (wr (0 + x2))) ((σ 25 (Int.toNat (wr (0 + x2)))) - x3)) 25 (Int.toNat (wr (80 + (4 * x1)))) x3) 25 (Int.toNat (wr ((80 + (4 * x1)) + 1))) ((pm_up (pm_up σ 25 (Int.toNat (wr (0 + x2))) ((σ 25 (Int.toNat (wr (0 + x2)))) - x3)) 25 (Int.toNat (wr (80 + (4 * x1)))) x3) 9 (Int.toNat (wr x2)))) 5 (Int.toNat (wr ((pm_up (pm_up (pm_up σ 25 (Int.toNat (wr (0 + x2))) ((σ 25 (Int.toNat (wr (0 + x2)))) - x3)) 25 (Int.toNat (wr (80 + (4 * x1)))) x3) 25 (Int.toNat (wr ((80 + (4 * x1)) + 1))) ((pm_up (pm_up σ 25 (Int.toNat (wr (0 + x2))) ((σ 25 (Int.toNat (wr (0 + x2)))) - x3)) 25 (Int.toNat (wr (80 + (4 * x1)))) x3) 9 (Int.toNat (wr x2)))) 9 (Int.toNat (wr x2))))))) 9 (Int.toNat (wr x2)))) < 9) (some (((pm_up (pm_up (pm_up (pm_up σ 25 (Int.toNat (wr (0 + x2))) ((σ 25 (Int.toNat (wr (0 + x2)))) - x3)) 25 (Int.toNat (wr (80 + (4 * x1)))) x3) 25 (Int.toNat (wr ((80 + (4 * x1)) + 1))) ((pm_up (pm_up σ 25 (Int.toNat (wr (0 + x2))) ((σ 25 (Int.toNat (wr (0 + x2)))) - x3)) 25 (Int.toNat (wr (80 + (4 * x1)))) x3) 9 (Int.toNat (wr x2)))) 25 (Int.toNat (wr ((80 + (4 * x1)) + 2))) ((pm_up (pm_up (pm_up σ 25 (Int.toNat (wr (0 + x2))) ((σ 25 (Int.toNat (wr (0 + x2)))) - x3)) 25 (Int.toNat (wr (80 + (4 * x1)))) x3) 25 (Int.toNat (wr ((80 + (4 * x1)) + 1))) ((pm_up (pm_up σ 25 (Int.toNat (wr (0 + x2))) ((σ 25 (Int.toNat (wr (0 + x2)))) - x3)) 25 (Int.toNat (wr (80 + (4 * x1)))) x3) 9 (Int.toNat (wr x2)))) 5 (Int.toNat (wr ((pm_up (pm_up (pm_up σ 25 (Int.toNat (wr (0 + x2))) ((σ 25 (Int.toNat (wr (0 + x2)))) - x3)) 25 (Int.toNat (wr (80 + (4 * x1)))) x3) 25 (Int.toNat (wr ((80 + (4 * x1)) + 1))) ((pm_up (pm_up σ 25 (Int.toNat (wr (0 + x2))) ((σ 25 (Int.toNat (wr (0 + x2)))) - x3)) 25 (Int.toNat (wr (80 + (4 * x1)))) x3) 9 (Int.toNat (wr x2)))) 9 (Int.toNat (wr x2))))))) 5 (Int.toNat (wr ((pm_up (pm_up (pm_up (pm_up σ 25 (Int.toNat (wr (0 + x2))) ((σ 25 (Int.toNat (wr (0 + x2)))) - x3)) 25 (Int.toNat (wr (80 + (4 * x1)))) x3) 25 (Int.toNat (wr ((80 + (4 * x1)) + 1))) ((pm_up (pm_up σ 25 (Int.toNat (wr (0 + x2))) ((σ 25 (Int.toNat (wr (0 + x2)))) - x3)) 25 (Int.toNat (wr (80 + (4 * x1)))) x3) 9 (Int.toNat (wr x2)))) 25 (Int.toNat (wr ((80 + (4 * x1)) + 2))) ((pm_up (pm_up (pm_up σ 25 (Int.toNat (wr (0 + x2))) ((σ 25 (Int.toNat (wr (0 + x2)))) - x3)) 25 (Int.toNat (wr (80 + (4 * x1)))) x3) 25 (Int.toNat (wr ((80 + (4 * x1)) + 1))) ((pm_up (pm_up σ 25 (Int.toNat (wr (0 + x2))) ((σ 25 (Int.toNat (wr (0 + x2)))) - x3)) 25 (Int.toNat (wr (80 + (4 * x1)))) x3) 9 (Int.toNat (wr x2)))) 5 (Int.toNat (wr ((pm_up (pm_up (pm_up σ 25 (Int.toNat (wr (0 + x2))) ((σ 25 (Int.toNat (wr (0 + x2)))) - x3)) 25 (Int.toNat (wr (80 + (4 * x1)))) x3) 25 (Int.toNat (wr ((80 + (4 * x1)) + 1))) ((pm_up (pm_up σ 25 (Int.toNat (wr (0 + x2))) ((σ 25 (Int.toNat (wr (0 + x2)))) - x3)) 25 (Int.toNat (wr (80 + (4 * x1)))) x3) 9 (Int.toNat (wr x2)))) 9 (Int.toNat (wr x2))))))) 9 (Int.toNat (wr x2)))))), (pm_up (pm_up (pm_up (pm_up σ 25 (Int.toNat (wr (0 + x2))) ((σ 25 (Int.toNat (wr (0 + x2)))) - x3)) 25 (Int.toNat (wr (80 + (4 * x1)))) x3) 25 (Int.toNat (wr ((80 + (4 * x1)) + 1))) ((pm_up (pm_up σ 25 (Int.toNat (wr (0 + x2))) ((σ 25 (Int.toNat (wr (0 + x2)))) - x3)) 25 (Int.toNat (wr (80 + (4 * x1)))) x3) 9 (Int.toNat (wr x2)))) 25 (Int.toNat (wr ((80 + (4 * x1)) + 2))) ((pm_up (pm_up (pm_up σ 25 (Int.toNat (wr (0 + x2))) ((σ 25 (Int.toNat (wr (0 + x2)))) - x3)) 25 (Int.toNat (wr (80 + (4 * x1)))) x3) 25 (Int.toNat (wr ((80 + (4 * x1)) + 1))) ((pm_up (pm_up σ 25 (Int.toNat (wr (0 + x2))) ((σ 25 (Int.toNat (wr (0 + x2)))) - x3)) 25 (Int.toNat (wr (80 + (4 * x1)))) x3) 9 (Int.toNat (wr x2)))) 5 (Int.toNat (wr ((pm_up (pm_up (pm_up σ 25 (Int.toNat (wr (0 + x2))) ((σ 25 (Int.toNat (wr (0 + x2)))) - x3)) 25 (Int.toNat (wr (80 + (4 * x1)))) x3) 25 (Int.toNat (wr ((80 + (4 * x1)) + 1))) ((pm_up (pm_up σ 25 (Int.toNat (wr (0 + x2))) ((σ 25 (Int.toNat (wr (0 + x2)))) - x3)) 25 (Int.toNat (wr (80 + (4 * x1)))) x3) 9 (Int.toNat (wr x2)))) 9 (Int.toNat (wr x2))))))))))))))))))) else ((fX12_refuse q17 σ).bind fun q30 => some (q30.1, q30.2))))))))
set_option maxHeartbeats 4000000 in
set_option maxRecDepth 100000 in
theorem tmX12_load {x1 : Int} {x2 : Int} {x3 : Int} {σ : pm_M} {ρ : Int × pm_M} (h : fX12_load x1 x2 x3 σ = some ρ) : pm_C mX12_load 2 42 [pv_r 0, pv_i x1, pv_i x2, pv_i x3] LAYM σ (some (pv_i ρ.1)) LAYM ρ.2 := by
  refine pm_C.of (by decide) rfl (Nat.le_of_ble_eq_true rfl) ?_
  show pm_J mX12_load 2 42 LAYM (some (pv_i ρ.1)) LAYM ρ.2 0 [some (pv_r 0), some (pv_i x1), some (pv_i x2), some (pv_i x3), none] [] LAYM σ
  unfold fX12_load at h
  refine pr_iload_n dX12_load_0 rfl ?_
  refine pr_iconst dX12_load_1 ?_
  obtain ⟨q1, e2, h⟩ := pm_bs h
  refine pr_callS (av := [pv_i x1, pv_i 4]) (S := []) dX12_load_2 mk_X12_95 rfl rfl (Nat.le_of_ble_eq_true rfl) (by decide) (by decide) (Or.inl rfl) (tmX12_isIn e2) ?_
  refine pr_if_eq (tgt := 19) dX12_load_5 rfl (by decide) (fun c_3 => ?_) (fun c_3 => ?_)
  · have h := pm_pos c_3 h
    refine pr_aload_n dX12_load_19 rfl ?_
    refine pr_iconst dX12_load_20 ?_
    obtain ⟨q4, e5, h⟩ := pm_bs h
    refine pr_callV (As := [pv_i (-1)]) (S := []) (t := 0) dX12_load_21 mk_X12_103 lm_0 (ci := 12) (q := (RX12, TX12, 36)) rfl rfl rfl rfl (Nat.le_of_ble_eq_true rfl) (by decide) (by decide) (Or.inl rfl) (tmX12_refuse e5) ?_
    have h := Option.some.inj h
    subst h
    exact pr_iret dX12_load_24 rfl
  · have h := pm_ng c_3 h
    refine pr_iload_n dX12_load_8 rfl ?_
    refine pr_aload_n dX12_load_9 rfl ?_
    refine pr_getI dX12_load_10 lk_X12_115 lm_0 rfl ?_
    obtain ⟨q6, e7, h⟩ := pm_bs h
    refine pr_callS (av := [pv_i x2, pv_i (σ 0 15)]) (S := []) dX12_load_13 mk_X12_95 rfl rfl (Nat.le_of_ble_eq_true rfl) (by decide) (by decide) (Or.inl rfl) (tmX12_isIn e7) ?_
    refine pr_if_ne (tgt := 25) dX12_load_16 rfl (by decide) (fun c_8 => ?_) (fun c_8 => ?_)
    · have h := pm_ng c_8 h
      refine pr_aload_n dX12_load_25 rfl ?_
      refine pr_getR dX12_load_26 lk_X12_86 lm_0 rfl ?_
      refine pr_bipush dX12_load_29 (by decide) ?_
      refine pr_iconst dX12_load_31 ?_
      refine pr_iload_n dX12_load_32 rfl ?_
      refine pr_imul dX12_load_33 ?_
      refine pr_iadd dX12_load_34 ?_
      obtain ⟨g_9, h⟩ := pm_gs h
      refine pr_iald dX12_load_35 lm_25 rfl g_9 ?_
      refine pr_if_gt (tgt := 47) dX12_load_36 rfl (by decide) (fun c_10 => ?_) (fun c_10 => ?_)
      · have h := pm_pos c_10 h
        refine pr_aload_n dX12_load_47 rfl ?_
        refine pr_bipush dX12_load_48 (by decide) ?_
        obtain ⟨q11, e12, h⟩ := pm_bs h
        refine pr_callV (As := [pv_i (-3)]) (S := []) (t := 0) dX12_load_50 mk_X12_103 lm_0 (ci := 12) (q := (RX12, TX12, 36)) rfl rfl rfl rfl (Nat.le_of_ble_eq_true rfl) (by decide) (by decide) (Or.inl rfl) (tmX12_refuse e12) ?_
        have h := Option.some.inj h
        subst h
        exact pr_iret dX12_load_53 rfl
      · have h := pm_ng c_10 h
        refine pr_aload_n dX12_load_39 rfl ?_
        refine pr_iload_n dX12_load_40 rfl ?_
        obtain ⟨q13, e14, h⟩ := pm_bs h
        refine pr_callV (As := [pv_i x2]) (S := []) (t := 0) dX12_load_41 mk_X12_121 lm_0 (ci := 12) (q := (RX12, TX12, 36)) rfl rfl rfl rfl (Nat.le_of_ble_eq_true rfl) (by decide) (by decide) (Or.inl rfl) (tmX12_isRipe e14) ?_
        refine pr_if_ne (tgt := 54) dX12_load_44 rfl (by decide) (fun c_15 => ?_) (fun c_15 => ?_)
        · have h := pm_ng c_15 h
          refine pr_iload_n dX12_load_54 rfl ?_
          refine pr_iconst dX12_load_55 ?_
          refine pr_bipush dX12_load_56 (by decide) ?_
          refine pr_aload_n dX12_load_58 rfl ?_
          refine pr_getR dX12_load_59 lk_X12_86 lm_0 rfl ?_
          refine pr_iconst dX12_load_62 ?_
          refine pr_iload_n dX12_load_63 rfl ?_
          refine pr_iadd dX12_load_64 ?_
          obtain ⟨g_16, h⟩ := pm_gs h
          refine pr_iald dX12_load_65 lm_25 rfl g_16 ?_
          refine pr_mmin dX12_load_66 mm_X12_124 (by decide) (Nat.le_of_ble_eq_true rfl) ?_
          obtain ⟨q17, e18, h⟩ := pm_bs h
          refine pr_callS (av := [pv_i x3, pv_i 1, pv_i (pm_min 100 (σ 25 (Int.toNat (wr (0 + x2)))))]) (S := []) dX12_load_69 mk_X12_99 rfl rfl (Nat.le_of_ble_eq_true rfl) (by decide) (by decide) (Or.inl rfl) (tmX12_wrong e18) ?_
          refine pr_istore dX12_load_72 (by decide) rfl ?_
          refine pr_iload dX12_load_74 rfl ?_
          refine pr_if_eq (tgt := 86) dX12_load_76 rfl (by decide) (fun c_19 => ?_) (fun c_19 => ?_)
          · have h := pm_pos c_19 h
            refine pr_aload_n dX12_load_86 rfl ?_
            refine pr_getR dX12_load_87 lk_X12_86 lm_0 rfl ?_
            refine pr_iconst dX12_load_90 ?_
            refine pr_iload_n dX12_load_91 rfl ?_
            refine pr_iadd dX12_load_92 ?_
            refine pr_dup2 dX12_load_93 rfl rfl ?_
            obtain ⟨g_20, h⟩ := pm_gs h
            refine pr_iald dX12_load_94 lm_25 rfl g_20 ?_
            refine pr_iload_n dX12_load_95 rfl ?_
            refine pr_isub dX12_load_96 ?_
            obtain ⟨g_21, h⟩ := pm_gs h
            refine pr_iast dX12_load_97 lm_25 rfl g_21 ?_
            refine pr_aload_n dX12_load_98 rfl ?_
            refine pr_getR dX12_load_99 lk_X12_86 lm_0 rfl ?_
            refine pr_bipush dX12_load_102 (by decide) ?_
            refine pr_iconst dX12_load_104 ?_
            refine pr_iload_n dX12_load_105 rfl ?_
            refine pr_imul dX12_load_106 ?_
            refine pr_iadd dX12_load_107 ?_
            refine pr_iload_n dX12_load_108 rfl ?_
            obtain ⟨g_22, h⟩ := pm_gs h
            refine pr_iast dX12_load_109 lm_25 rfl g_22 ?_
            refine pr_aload_n dX12_load_110 rfl ?_
            refine pr_getR dX12_load_111 lk_X12_86 lm_0 rfl ?_
            refine pr_bipush dX12_load_114 (by decide) ?_
            refine pr_iconst dX12_load_116 ?_
            refine pr_iload_n dX12_load_117 rfl ?_
            refine pr_imul dX12_load_118 ?_
            refine pr_iadd dX12_load_119 ?_
            refine pr_iconst dX12_load_120 ?_
            refine pr_iadd dX12_load_121 ?_
            refine pr_aload_n dX12_load_122 rfl ?_
            refine pr_getR dX12_load_123 lk_X12_34 lm_0 rfl ?_
            refine pr_iload_n dX12_load_126 rfl ?_
            obtain ⟨g_23, h⟩ := pm_gs h
            refine pr_iald dX12_load_127 lm_9 rfl g_23 ?_
            obtain ⟨g_24, h⟩ := pm_gs h
            refine pr_iast dX12_load_128 lm_25 rfl g_24 ?_
            refine pr_aload_n dX12_load_129 rfl ?_
            refine pr_getR dX12_load_130 lk_X12_86 lm_0 rfl ?_
            refine pr_bipush dX12_load_133 (by decide) ?_
            refine pr_iconst dX12_load_135 ?_
            refine pr_iload_n dX12_load_136 rfl ?_
            refine pr_imul dX12_load_137 ?_
            refine pr_iadd dX12_load_138 ?_
            refine pr_iconst dX12_load_139 ?_
            refine pr_iadd dX12_load_140 ?_
            refine pr_aload_n dX12_load_141 rfl ?_
            refine pr_getR dX12_load_142 lk_X12_22 lm_0 rfl ?_
            refine pr_aload_n dX12_load_145 rfl ?_
            refine pr_getR dX12_load_146 lk_X12_34 lm_0 rfl ?_
            refine pr_iload_n dX12_load_149 rfl ?_
            obtain ⟨g_25, h⟩ := pm_gs h
            refine pr_iald dX12_load_150 lm_9 rfl g_25 ?_
            obtain ⟨g_26, h⟩ := pm_gs h
            refine pr_iald dX12_load_151 lm_5 rfl g_26 ?_
            obtain ⟨g_27, h⟩ := pm_gs h
            refine pr_iast dX12_load_152 lm_25 rfl g_27 ?_
            refine pr_aload_n dX12_load_153 rfl ?_
            refine pr_getR dX12_load_154 lk_X12_22 lm_0 rfl ?_
            refine pr_aload_n dX12_load_157 rfl ?_
            refine pr_getR dX12_load_158 lk_X12_34 lm_0 rfl ?_
            refine pr_iload_n dX12_load_161 rfl ?_
            obtain ⟨g_28, h⟩ := pm_gs h
            refine pr_iald dX12_load_162 lm_9 rfl g_28 ?_
            obtain ⟨g_29, h⟩ := pm_gs h
            refine pr_iald dX12_load_163 lm_5 rfl g_29 ?_
            have h := Option.some.inj h
            subst h
            exact pr_iret dX12_load_164 rfl
          · have h := pm_ng c_19 h
            refine pr_aload_n dX12_load_79 rfl ?_
            refine pr_iload dX12_load_80 rfl ?_
            obtain ⟨q30, e31, h⟩ := pm_bs h
            refine pr_callV (As := [pv_i q17]) (S := []) (t := 0) dX12_load_82 mk_X12_103 lm_0 (ci := 12) (q := (RX12, TX12, 36)) rfl rfl rfl rfl (Nat.le_of_ble_eq_true rfl) (by decide) (by decide) (Or.inl rfl) (tmX12_refuse e31) ?_
            have h := Option.some.inj h
            subst h
            exact pr_iret dX12_load_85 rfl
        · have h := pm_pos c_15 h
          refine pr_aload_n dX12_load_47 rfl ?_
          refine pr_bipush dX12_load_48 (by decide) ?_
          obtain ⟨q32, e33, h⟩ := pm_bs h
          refine pr_callV (As := [pv_i (-3)]) (S := []) (t := 0) dX12_load_50 mk_X12_103 lm_0 (ci := 12) (q := (RX12, TX12, 36)) rfl rfl rfl rfl (Nat.le_of_ble_eq_true rfl) (by decide) (by decide) (Or.inl rfl) (tmX12_refuse e33) ?_
          have h := Option.some.inj h
          subst h
          exact pr_iret dX12_load_53 rfl
    · have h := pm_pos c_8 h
      refine pr_aload_n dX12_load_19 rfl ?_
      refine pr_iconst dX12_load_20 ?_
      obtain ⟨q34, e35, h⟩ := pm_bs h
      refine pr_callV (As := [pv_i (-1)]) (S := []) (t := 0) dX12_load_21 mk_X12_103 lm_0 (ci := 12) (q := (RX12, TX12, 36)) rfl rfl rfl rfl (Nat.le_of_ble_eq_true rfl) (by decide) (by decide) (Or.inl rfl) (tmX12_refuse e35) ?_
      have h := Option.some.inj h
      subst h
      exact pr_iret dX12_load_24 rfl
def bdX12_pair_44 (z2 : Int) (σ : pm_M) : Option ((Int × pm_M) ⊕ (Int × pm_M)) :=
  if 12 ≤ (wr z2) then (some (.inl (z2, σ))) else (pm_g (0 ≤ (wr ((12 * (σ 0 16)) + z2)) ∧ (wr ((12 * (σ 0 16)) + z2)) < 48) (some (.inr ((z2 + 1), (pm_up σ 12 (Int.toNat (wr ((12 * (σ 0 16)) + z2))) 50)))))
set_option maxHeartbeats 4000000 in
set_option maxRecDepth 100000 in
theorem tbX12_pair_44 {lay0 lay' : List pm_S} {r : Option pm_V} {σ' : pm_M} : ∀ (a : Int × pm_M) (e : (Int × pm_M) ⊕ (Int × pm_M)), (fun a => bdX12_pair_44 a.1 a.2) a = some e → (∀ a, e = .inr a → (fun a => pm_J mX12_pair 1 21 lay0 r lay' σ' 44 [some (pv_r 0), none, some (pv_i a.1)] [] LAYM a.2) a) → (∀ a, e = .inl a → (fun a => pm_J mX12_pair 1 21 lay0 r lay' σ' 72 [some (pv_r 0), none, none] [] LAYM a.2) a) → (fun a => pm_J mX12_pair 1 21 lay0 r lay' σ' 44 [some (pv_r 0), none, some (pv_i a.1)] [] LAYM a.2) a := by
  intro a e h hc hx
  obtain ⟨z2, σ⟩ := a
  have h : bdX12_pair_44 z2 σ = some e := h
  unfold bdX12_pair_44 at h
  show pm_J mX12_pair 1 21 lay0 r lay' σ' 44 [some (pv_r 0), none, some (pv_i z2)] [] LAYM σ
  refine pr_iload_n dX12_pair_44 rfl ?_
  refine pr_bipush dX12_pair_45 (by decide) ?_
  refine pr_icmp_ge (tgt := 72) dX12_pair_47 rfl (wr_eq (by decide) (by decide)) (by decide) (fun c_6 => ?_) (fun c_6 => ?_)
  · have h := pm_pos c_6 h
    refine pr_weak (L2 := [some (pv_r 0), none, none]) ⟨Or.inr rfl, Or.inl rfl, Or.inl rfl, trivial⟩ ?_
    exact hx (z2, σ) (Option.some.inj h).symm
  · have h := pm_ng c_6 h
    refine pr_aload_n dX12_pair_50 rfl ?_
    refine pr_getR dX12_pair_51 lk_X12_43 lm_0 rfl ?_
    refine pr_bipush dX12_pair_54 (by decide) ?_
    refine pr_aload_n dX12_pair_56 rfl ?_
    refine pr_getI dX12_pair_57 lk_X12_129 lm_0 rfl ?_
    refine pr_imul dX12_pair_60 ?_
    refine pr_iload_n dX12_pair_61 rfl ?_
    refine pr_iadd dX12_pair_62 ?_
    refine pr_bipush dX12_pair_63 (by decide) ?_
    obtain ⟨g_7, h⟩ := pm_gs h
    refine pr_iast dX12_pair_65 lm_12 rfl g_7 ?_
    refine pr_iinc dX12_pair_66 rfl (by decide) rfl ?_
    refine pr_goto (tgt := 44) dX12_pair_69 (by decide) ?_
    refine pr_weak (L2 := [some (pv_r 0), none, some (pv_i (z2 + 1))]) ⟨Or.inr rfl, Or.inl rfl, Or.inr rfl, trivial⟩ ?_
    exact hc ((z2 + 1), (pm_up σ 12 (Int.toNat (wr ((12 * (σ 0 16)) + z2))) 50)) (Option.some.inj h).symm
def fX12_pair (x1 : Int) (σ : pm_M) : Option (Int × pm_M) :=
  (fX12_isIn (x1 - 1) 8).bind fun q1 => if (wr q1) = 0 then ((fX12_refuse (-1) σ).bind fun q12 => some (q12.1, q12.2)) else (if (wr (σ 0 16)) = 4 then ((fX12_refuse (-6) σ).bind fun q10 => some (q10.1, q10.2)) else (pm_g (0 ≤ (wr (σ 0 16)) ∧ (wr (σ 0 16)) < 4) ((pm_it (fun a => bdX12_pair_44 a.1 a.2) pm_fuel (0, (pm_up σ 11 (Int.toNat (wr (σ 0 16))) x1))).bind fun v8 => some ((((pm_up v8.2 0 16 ((v8.2 0 16) + 1)) 0 16) - 1), (pm_up v8.2 0 16 ((v8.2 0 16) + 1))))))
set_option maxHeartbeats 4000000 in
set_option maxRecDepth 100000 in
theorem tmX12_pair {x1 : Int} {σ : pm_M} {ρ : Int × pm_M} (h : fX12_pair x1 σ = some ρ) : pm_C mX12_pair 1 21 [pv_r 0, pv_i x1] LAYM σ (some (pv_i ρ.1)) LAYM ρ.2 := by
  refine pm_C.of (by decide) rfl (Nat.le_of_ble_eq_true rfl) ?_
  show pm_J mX12_pair 1 21 LAYM (some (pv_i ρ.1)) LAYM ρ.2 0 [some (pv_r 0), some (pv_i x1), none] [] LAYM σ
  unfold fX12_pair at h
  refine pr_iload_n dX12_pair_0 rfl ?_
  refine pr_iconst dX12_pair_1 ?_
  refine pr_isub dX12_pair_2 ?_
  refine pr_bipush dX12_pair_3 (by decide) ?_
  obtain ⟨q1, e2, h⟩ := pm_bs h
  refine pr_callS (av := [pv_i (x1 - 1), pv_i 8]) (S := []) dX12_pair_5 mk_X12_95 rfl rfl (Nat.le_of_ble_eq_true rfl) (by decide) (by decide) (Or.inl rfl) (tmX12_isIn e2) ?_
  refine pr_if_ne (tgt := 17) dX12_pair_8 rfl (by decide) (fun c_3 => ?_) (fun c_3 => ?_)
  · have h := pm_ng c_3 h
    refine pr_aload_n dX12_pair_17 rfl ?_
    refine pr_getI dX12_pair_18 lk_X12_129 lm_0 rfl ?_
    refine pr_iconst dX12_pair_21 ?_
    refine pr_icmp_ne (tgt := 32) dX12_pair_22 rfl (wr_eq (by decide) (by decide)) (by decide) (fun c_4 => ?_) (fun c_4 => ?_)
    · have h := pm_ng c_4 h
      refine pr_aload_n dX12_pair_32 rfl ?_
      refine pr_getR dX12_pair_33 lk_X12_40 lm_0 rfl ?_
      refine pr_aload_n dX12_pair_36 rfl ?_
      refine pr_getI dX12_pair_37 lk_X12_129 lm_0 rfl ?_
      refine pr_iload_n dX12_pair_40 rfl ?_
      obtain ⟨g_5, h⟩ := pm_gs h
      refine pr_iast dX12_pair_41 lm_11 rfl g_5 ?_
      refine pr_iconst dX12_pair_42 ?_
      refine pr_istore_n dX12_pair_43 (by decide) rfl ?_
      obtain ⟨v8, e9, h⟩ := pm_bs h
      refine pr_weak (L2 := [some (pv_r 0), none, some (pv_i 0)]) ⟨Or.inr rfl, Or.inl rfl, Or.inr rfl, trivial⟩ ?_
      refine pm_it_J (α := Int × pm_M) (β := Int × pm_M) (f := fun a => bdX12_pair_44 a.1 a.2) (P := fun a => pm_J mX12_pair 1 21 LAYM (some (pv_i ρ.1)) LAYM ρ.2 44 [some (pv_r 0), none, some (pv_i a.1)] [] LAYM a.2) (Rx := fun a => pm_J mX12_pair 1 21 LAYM (some (pv_i ρ.1)) LAYM ρ.2 72 [some (pv_r 0), none, none] [] LAYM a.2) (tbX12_pair_44) pm_fuel (0, (pm_up σ 11 (Int.toNat (wr (σ 0 16))) x1)) v8 e9 ?_
      show pm_J mX12_pair 1 21 LAYM (some (pv_i ρ.1)) LAYM ρ.2 72 [some (pv_r 0), none, none] [] LAYM v8.2
      refine pr_aload_n dX12_pair_72 rfl ?_
      refine pr_dup dX12_pair_73 rfl ?_
      refine pr_getI dX12_pair_74 lk_X12_129 lm_0 rfl ?_
      refine pr_iconst dX12_pair_77 ?_
      refine pr_iadd dX12_pair_78 ?_
      refine pr_putI dX12_pair_79 lp_X12_129 lm_0 rfl ?_
      refine pr_aload_n dX12_pair_82 rfl ?_
      refine pr_getI dX12_pair_83 lk_X12_129 lm_0 rfl ?_
      refine pr_iconst dX12_pair_86 ?_
      refine pr_isub dX12_pair_87 ?_
      have h := Option.some.inj h
      subst h
      exact pr_iret dX12_pair_88 rfl
    · have h := pm_pos c_4 h
      refine pr_aload_n dX12_pair_25 rfl ?_
      refine pr_bipush dX12_pair_26 (by decide) ?_
      obtain ⟨q10, e11, h⟩ := pm_bs h
      refine pr_callV (As := [pv_i (-6)]) (S := []) (t := 0) dX12_pair_28 mk_X12_103 lm_0 (ci := 12) (q := (RX12, TX12, 36)) rfl rfl rfl rfl (Nat.le_of_ble_eq_true rfl) (by decide) (by decide) (Or.inl rfl) (tmX12_refuse e11) ?_
      have h := Option.some.inj h
      subst h
      exact pr_iret dX12_pair_31 rfl
  · have h := pm_pos c_3 h
    refine pr_aload_n dX12_pair_11 rfl ?_
    refine pr_iconst dX12_pair_12 ?_
    obtain ⟨q12, e13, h⟩ := pm_bs h
    refine pr_callV (As := [pv_i (-1)]) (S := []) (t := 0) dX12_pair_13 mk_X12_103 lm_0 (ci := 12) (q := (RX12, TX12, 36)) rfl rfl rfl rfl (Nat.le_of_ble_eq_true rfl) (by decide) (by decide) (Or.inl rfl) (tmX12_refuse e13) ?_
    have h := Option.some.inj h
    subst h
    exact pr_iret dX12_pair_16 rfl
