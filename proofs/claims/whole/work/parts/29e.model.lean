def fX12_furnish (x1 : Int) (x2 : Int) (σ : pm_M) : Option (Int × pm_M) :=
  (fX12_isIn x1 3).bind fun q1 => if (wr q1) = 0 then ((fX12_refuse (-1) σ).bind fun q4 => some (q4.1, q4.2)) else ((fX12_isKind x2 σ).bind fun q6 => if (wr q6) = 0 then ((fX12_refuse (-1) σ).bind fun q11 => some (q11.1, q11.2)) else (pm_g (0 ≤ (wr x1) ∧ (wr x1) < 3) (pm_g (0 ≤ (wr x1) ∧ (wr x1) < 3) (some ((σ 15 (Int.toNat (wr x1))), (pm_up σ 15 (Int.toNat (wr x1)) x2))))))
set_option maxHeartbeats 4000000 in
set_option maxRecDepth 100000 in
theorem tmX12_furnish {x1 : Int} {x2 : Int} {σ : pm_M} {ρ : Int × pm_M} (h : fX12_furnish x1 x2 σ = some ρ) : pm_C mX12_furnish 2 42 [pv_r 0, pv_i x1, pv_i x2] LAYM σ (some (pv_i ρ.1)) LAYM ρ.2 := by
  refine pm_C.of (by decide) rfl (Nat.le_of_ble_eq_true rfl) ?_
  show pm_J mX12_furnish 2 42 LAYM (some (pv_i ρ.1)) LAYM ρ.2 0 [some (pv_r 0), some (pv_i x1), some (pv_i x2), none] [] LAYM σ
  unfold fX12_furnish at h
  refine pr_iload_n dX12_furnish_0 rfl ?_
  refine pr_iconst dX12_furnish_1 ?_
  obtain ⟨q1, e2, h⟩ := pm_bs h
  refine pr_callS (av := [pv_i x1, pv_i 3]) (S := []) dX12_furnish_2 mk_X12_95 rfl rfl (Nat.le_of_ble_eq_true rfl) (by decide) (by decide) (Or.inl rfl) (tmX12_isIn e2) ?_
  refine pr_if_eq (tgt := 16) dX12_furnish_5 rfl (by decide) (fun c_3 => ?_) (fun c_3 => ?_)
  · have h := pm_pos c_3 h
    refine pr_aload_n dX12_furnish_16 rfl ?_
    refine pr_iconst dX12_furnish_17 ?_
    obtain ⟨q4, e5, h⟩ := pm_bs h
    refine pr_callV (As := [pv_i (-1)]) (S := []) (t := 0) dX12_furnish_18 mk_X12_103 lm_0 (ci := 12) (q := (RX12, TX12, 36)) rfl rfl rfl rfl (Nat.le_of_ble_eq_true rfl) (by decide) (by decide) (Or.inl rfl) (tmX12_refuse e5) ?_
    have h := Option.some.inj h
    subst h
    exact pr_iret dX12_furnish_21 rfl
  · have h := pm_ng c_3 h
    refine pr_aload_n dX12_furnish_8 rfl ?_
    refine pr_iload_n dX12_furnish_9 rfl ?_
    obtain ⟨q6, e7, h⟩ := pm_bs h
    refine pr_callV (As := [pv_i x2]) (S := []) (t := 0) dX12_furnish_10 mk_X12_111 lm_0 (ci := 12) (q := (RX12, TX12, 36)) rfl rfl rfl rfl (Nat.le_of_ble_eq_true rfl) (by decide) (by decide) (Or.inl rfl) (tmX12_isKind e7) ?_
    refine pr_if_ne (tgt := 22) dX12_furnish_13 rfl (by decide) (fun c_8 => ?_) (fun c_8 => ?_)
    · have h := pm_ng c_8 h
      refine pr_aload_n dX12_furnish_22 rfl ?_
      refine pr_getR dX12_furnish_23 lk_X12_52 lm_0 rfl ?_
      refine pr_iload_n dX12_furnish_26 rfl ?_
      obtain ⟨g_9, h⟩ := pm_gs h
      refine pr_iald dX12_furnish_27 lm_15 rfl g_9 ?_
      refine pr_istore_n dX12_furnish_28 (by decide) rfl ?_
      refine pr_aload_n dX12_furnish_29 rfl ?_
      refine pr_getR dX12_furnish_30 lk_X12_52 lm_0 rfl ?_
      refine pr_iload_n dX12_furnish_33 rfl ?_
      refine pr_iload_n dX12_furnish_34 rfl ?_
      obtain ⟨g_10, h⟩ := pm_gs h
      refine pr_iast dX12_furnish_35 lm_15 rfl g_10 ?_
      refine pr_iload_n dX12_furnish_36 rfl ?_
      have h := Option.some.inj h
      subst h
      exact pr_iret dX12_furnish_37 rfl
    · have h := pm_pos c_8 h
      refine pr_aload_n dX12_furnish_16 rfl ?_
      refine pr_iconst dX12_furnish_17 ?_
      obtain ⟨q11, e12, h⟩ := pm_bs h
      refine pr_callV (As := [pv_i (-1)]) (S := []) (t := 0) dX12_furnish_18 mk_X12_103 lm_0 (ci := 12) (q := (RX12, TX12, 36)) rfl rfl rfl rfl (Nat.le_of_ble_eq_true rfl) (by decide) (by decide) (Or.inl rfl) (tmX12_refuse e12) ?_
      have h := Option.some.inj h
      subst h
      exact pr_iret dX12_furnish_21 rfl
def fX12_loft (x1 : Int) (σ : pm_M) : Option (Int × pm_M) :=
  (fX12_wrong x1 0 40).bind fun q1 => if (wr q1) = 0 then (some ((σ 0 20), (pm_up σ 0 20 x1))) else ((fX12_refuse q1 σ).bind fun q4 => some (q4.1, q4.2))
set_option maxHeartbeats 4000000 in
set_option maxRecDepth 100000 in
theorem tmX12_loft {x1 : Int} {σ : pm_M} {ρ : Int × pm_M} (h : fX12_loft x1 σ = some ρ) : pm_C mX12_loft 1 22 [pv_r 0, pv_i x1] LAYM σ (some (pv_i ρ.1)) LAYM ρ.2 := by
  refine pm_C.of (by decide) rfl (Nat.le_of_ble_eq_true rfl) ?_
  show pm_J mX12_loft 1 22 LAYM (some (pv_i ρ.1)) LAYM ρ.2 0 [some (pv_r 0), some (pv_i x1), none, none] [] LAYM σ
  unfold fX12_loft at h
  refine pr_iload_n dX12_loft_0 rfl ?_
  refine pr_iconst dX12_loft_1 ?_
  refine pr_bipush dX12_loft_2 (by decide) ?_
  obtain ⟨q1, e2, h⟩ := pm_bs h
  refine pr_callS (av := [pv_i x1, pv_i 0, pv_i 40]) (S := []) dX12_loft_4 mk_X12_99 rfl rfl (Nat.le_of_ble_eq_true rfl) (by decide) (by decide) (Or.inl rfl) (tmX12_wrong e2) ?_
  refine pr_istore_n dX12_loft_7 (by decide) rfl ?_
  refine pr_iload_n dX12_loft_8 rfl ?_
  refine pr_if_eq (tgt := 18) dX12_loft_9 rfl (by decide) (fun c_3 => ?_) (fun c_3 => ?_)
  · have h := pm_pos c_3 h
    refine pr_aload_n dX12_loft_18 rfl ?_
    refine pr_getI dX12_loft_19 lk_X12_55 lm_0 rfl ?_
    refine pr_istore_n dX12_loft_22 (by decide) rfl ?_
    refine pr_aload_n dX12_loft_23 rfl ?_
    refine pr_iload_n dX12_loft_24 rfl ?_
    refine pr_putI dX12_loft_25 lp_X12_55 lm_0 rfl ?_
    refine pr_iload_n dX12_loft_28 rfl ?_
    have h := Option.some.inj h
    subst h
    exact pr_iret dX12_loft_29 rfl
  · have h := pm_ng c_3 h
    refine pr_aload_n dX12_loft_12 rfl ?_
    refine pr_iload_n dX12_loft_13 rfl ?_
    obtain ⟨q4, e5, h⟩ := pm_bs h
    refine pr_callV (As := [pv_i q1]) (S := []) (t := 0) dX12_loft_14 mk_X12_103 lm_0 (ci := 12) (q := (RX12, TX12, 36)) rfl rfl rfl rfl (Nat.le_of_ble_eq_true rfl) (by decide) (by decide) (Or.inl rfl) (tmX12_refuse e5) ?_
    have h := Option.some.inj h
    subst h
    exact pr_iret dX12_loft_17 rfl
def fX12_hides (x1 : Int) (σ : pm_M) : Option (Int × pm_M) :=
  (fX12_wrong x1 1 (1000 - (σ 0 19))).bind fun q1 => if (wr q1) = 0 then (some (((pm_up σ 0 19 ((σ 0 19) + x1)) 0 19), (pm_up σ 0 19 ((σ 0 19) + x1)))) else ((fX12_refuse q1 σ).bind fun q4 => some (q4.1, q4.2))
set_option maxHeartbeats 4000000 in
set_option maxRecDepth 100000 in
theorem tmX12_hides {x1 : Int} {σ : pm_M} {ρ : Int × pm_M} (h : fX12_hides x1 σ = some ρ) : pm_C mX12_hides 1 22 [pv_r 0, pv_i x1] LAYM σ (some (pv_i ρ.1)) LAYM ρ.2 := by
  refine pm_C.of (by decide) rfl (Nat.le_of_ble_eq_true rfl) ?_
  show pm_J mX12_hides 1 22 LAYM (some (pv_i ρ.1)) LAYM ρ.2 0 [some (pv_r 0), some (pv_i x1), none] [] LAYM σ
  unfold fX12_hides at h
  refine pr_iload_n dX12_hides_0 rfl ?_
  refine pr_iconst dX12_hides_1 ?_
  refine pr_sipush dX12_hides_2 (by decide) ?_
  refine pr_aload_n dX12_hides_5 rfl ?_
  refine pr_getI dX12_hides_6 lk_X12_135 lm_0 rfl ?_
  refine pr_isub dX12_hides_9 ?_
  obtain ⟨q1, e2, h⟩ := pm_bs h
  refine pr_callS (av := [pv_i x1, pv_i 1, pv_i (1000 - (σ 0 19))]) (S := []) dX12_hides_10 mk_X12_99 rfl rfl (Nat.le_of_ble_eq_true rfl) (by decide) (by decide) (Or.inl rfl) (tmX12_wrong e2) ?_
  refine pr_istore_n dX12_hides_13 (by decide) rfl ?_
  refine pr_iload_n dX12_hides_14 rfl ?_
  refine pr_if_eq (tgt := 24) dX12_hides_15 rfl (by decide) (fun c_3 => ?_) (fun c_3 => ?_)
  · have h := pm_pos c_3 h
    refine pr_aload_n dX12_hides_24 rfl ?_
    refine pr_dup dX12_hides_25 rfl ?_
    refine pr_getI dX12_hides_26 lk_X12_135 lm_0 rfl ?_
    refine pr_iload_n dX12_hides_29 rfl ?_
    refine pr_iadd dX12_hides_30 ?_
    refine pr_putI dX12_hides_31 lp_X12_135 lm_0 rfl ?_
    refine pr_aload_n dX12_hides_34 rfl ?_
    refine pr_getI dX12_hides_35 lk_X12_135 lm_0 rfl ?_
    have h := Option.some.inj h
    subst h
    exact pr_iret dX12_hides_38 rfl
  · have h := pm_ng c_3 h
    refine pr_aload_n dX12_hides_18 rfl ?_
    refine pr_iload_n dX12_hides_19 rfl ?_
    obtain ⟨q4, e5, h⟩ := pm_bs h
    refine pr_callV (As := [pv_i q1]) (S := []) (t := 0) dX12_hides_20 mk_X12_103 lm_0 (ci := 12) (q := (RX12, TX12, 36)) rfl rfl rfl rfl (Nat.le_of_ble_eq_true rfl) (by decide) (by decide) (Or.inl rfl) (tmX12_refuse e5) ?_
    have h := Option.some.inj h
    subst h
    exact pr_iret dX12_hides_23 rfl
def fX12_post (x1 : Int) (x2 : Int) (σ : pm_M) : Option (Int) :=
  pm_g (0 ≤ (wr ((111 + (8 * x1)) + x2)) ∧ (wr ((111 + (8 * x1)) + x2)) < 755) (some (σ 25 (Int.toNat (wr ((111 + (8 * x1)) + x2)))))
set_option maxHeartbeats 4000000 in
set_option maxRecDepth 100000 in
theorem tmX12_post {x1 : Int} {x2 : Int} {σ : pm_M} {ρ : Int} (h : fX12_post x1 x2 σ = some ρ) : pm_C mX12_post 0 0 [pv_r 0, pv_i x1, pv_i x2] LAYM σ (some (pv_i ρ)) LAYM σ := by
  refine pm_C.of (by decide) rfl (Nat.le_of_ble_eq_true rfl) ?_
  show pm_J mX12_post 0 0 LAYM (some (pv_i ρ)) LAYM σ 0 [some (pv_r 0), some (pv_i x1), some (pv_i x2)] [] LAYM σ
  unfold fX12_post at h
  refine pr_aload_n dX12_post_0 rfl ?_
  refine pr_getR dX12_post_1 lk_X12_86 lm_0 rfl ?_
  refine pr_bipush dX12_post_4 (by decide) ?_
  refine pr_bipush dX12_post_6 (by decide) ?_
  refine pr_iload_n dX12_post_8 rfl ?_
  refine pr_imul dX12_post_9 ?_
  refine pr_iadd dX12_post_10 ?_
  refine pr_iload_n dX12_post_11 rfl ?_
  refine pr_iadd dX12_post_12 ?_
  obtain ⟨g_1, h⟩ := pm_gs h
  refine pr_iald dX12_post_13 lm_25 rfl g_1 ?_
  have h := Option.some.inj h
  subst h
  exact pr_iret dX12_post_14 rfl
def fX12_put (x1 : Int) (x2 : Int) (x3 : Int) (σ : pm_M) : Option (pm_M) :=
  pm_g (0 ≤ (wr ((111 + (8 * x1)) + x2)) ∧ (wr ((111 + (8 * x1)) + x2)) < 755) (some (pm_up σ 25 (Int.toNat (wr ((111 + (8 * x1)) + x2))) x3))
set_option maxHeartbeats 4000000 in
set_option maxRecDepth 100000 in
theorem tmX12_put {x1 : Int} {x2 : Int} {x3 : Int} {σ : pm_M} {ρ : pm_M} (h : fX12_put x1 x2 x3 σ = some ρ) : pm_C mX12_put 0 0 [pv_r 0, pv_i x1, pv_i x2, pv_i x3] LAYM σ none LAYM ρ := by
  refine pm_C.of (by decide) rfl (Nat.le_of_ble_eq_true rfl) ?_
  show pm_J mX12_put 0 0 LAYM none LAYM ρ 0 [some (pv_r 0), some (pv_i x1), some (pv_i x2), some (pv_i x3)] [] LAYM σ
  unfold fX12_put at h
  refine pr_aload_n dX12_put_0 rfl ?_
  refine pr_getR dX12_put_1 lk_X12_86 lm_0 rfl ?_
  refine pr_bipush dX12_put_4 (by decide) ?_
  refine pr_bipush dX12_put_6 (by decide) ?_
  refine pr_iload_n dX12_put_8 rfl ?_
  refine pr_imul dX12_put_9 ?_
  refine pr_iadd dX12_put_10 ?_
  refine pr_iload_n dX12_put_11 rfl ?_
  refine pr_iadd dX12_put_12 ?_
  refine pr_iload_n dX12_put_13 rfl ?_
  obtain ⟨g_1, h⟩ := pm_gs h
  refine pr_iast dX12_put_14 lm_25 rfl g_1 ?_
  have h := Option.some.inj h
  subst h
  exact pr_vret dX12_put_15 rfl
def fX12_sizes (x1 : Int) (σ : pm_M) : Option (Int × pm_M) :=
  (fX12_post x1 4 (pm_up σ 0 19 ((σ 0 19) - 1))).bind fun q1 => (fX12_post x1 3 (pm_up σ 0 19 ((σ 0 19) - 1))).bind fun q3 => (fX12_put x1 0 3 (pm_up σ 0 19 ((σ 0 19) - 1))).bind fun q5 => (fX12_put x1 7 (pm_max 0 (58 - (Int.tdiv (wr (q1 - q3)) 24))) q5).bind fun q7 => (fX12_post x1 2 q7).bind fun q9 => (fX12_post x1 1 q7).bind fun q11 => pm_g (0 ≤ (wr q11) ∧ (wr q11) < 4) (pm_g (0 ≤ (wr ((9 * q9) + (q7 11 (Int.toNat (wr q11))))) ∧ (wr ((9 * q9) + (q7 11 (Int.toNat (wr q11))))) < 81) (pm_g (0 ≤ (wr ((9 * q9) + (q7 11 (Int.toNat (wr q11))))) ∧ (wr ((9 * q9) + (q7 11 (Int.toNat (wr q11))))) < 81) (some ((pm_max 0 (58 - (Int.tdiv (wr (q1 - q3)) 24))), (pm_up q7 8 (Int.toNat (wr ((9 * q9) + (q7 11 (Int.toNat (wr q11)))))) ((q7 8 (Int.toNat (wr ((9 * q9) + (q7 11 (Int.toNat (wr q11))))))) + (pm_max 0 (58 - (Int.tdiv (wr (q1 - q3)) 24)))))))))
set_option maxHeartbeats 4000000 in
set_option maxRecDepth 100000 in
theorem tmX12_sizes {x1 : Int} {σ : pm_M} {ρ : Int × pm_M} (h : fX12_sizes x1 σ = some ρ) : pm_C mX12_sizes 1 23 [pv_r 0, pv_i x1] LAYM σ (some (pv_i ρ.1)) LAYM ρ.2 := by
  refine pm_C.of (by decide) rfl (Nat.le_of_ble_eq_true rfl) ?_
  show pm_J mX12_sizes 1 23 LAYM (some (pv_i ρ.1)) LAYM ρ.2 0 [some (pv_r 0), some (pv_i x1), none, none] [] LAYM σ
  unfold fX12_sizes at h
  refine pr_aload_n dX12_sizes_0 rfl ?_
  refine pr_dup dX12_sizes_1 rfl ?_
  refine pr_getI dX12_sizes_2 lk_X12_135 lm_0 rfl ?_
  refine pr_iconst dX12_sizes_5 ?_
  refine pr_isub dX12_sizes_6 ?_
  refine pr_putI dX12_sizes_7 lp_X12_135 lm_0 rfl ?_
  refine pr_aload_n dX12_sizes_10 rfl ?_
  refine pr_iload_n dX12_sizes_11 rfl ?_
  refine pr_iconst dX12_sizes_12 ?_
  obtain ⟨q1, e2, h⟩ := pm_bs h
  refine pr_callV (As := [pv_i x1, pv_i 4]) (S := []) (t := 0) dX12_sizes_13 mk_X12_138 lm_0 (ci := 12) (q := (RX12, TX12, 36)) rfl rfl rfl rfl (Nat.le_of_ble_eq_true rfl) (by decide) (by decide) (Or.inl rfl) (tmX12_post e2) ?_
  refine pr_aload_n dX12_sizes_16 rfl ?_
  refine pr_iload_n dX12_sizes_17 rfl ?_
  refine pr_iconst dX12_sizes_18 ?_
  obtain ⟨q3, e4, h⟩ := pm_bs h
  refine pr_callV (As := [pv_i x1, pv_i 3]) (S := [pv_i q1]) (t := 0) dX12_sizes_19 mk_X12_138 lm_0 (ci := 12) (q := (RX12, TX12, 36)) rfl rfl rfl rfl (Nat.le_of_ble_eq_true rfl) (by decide) (by decide) (Or.inl rfl) (tmX12_post e4) ?_
  refine pr_isub dX12_sizes_22 ?_
  refine pr_bipush dX12_sizes_23 (by decide) ?_
  refine pr_idiv dX12_sizes_25 rfl (wr_eq (by decide) (by decide)) (by decide) ?_
  refine pr_istore_n dX12_sizes_26 (by decide) rfl ?_
  refine pr_iconst dX12_sizes_27 ?_
  refine pr_bipush dX12_sizes_28 (by decide) ?_
  refine pr_iload_n dX12_sizes_30 rfl ?_
  refine pr_isub dX12_sizes_31 ?_
  refine pr_mmax dX12_sizes_32 mm_X12_141 (by decide) (Nat.le_of_ble_eq_true rfl) ?_
  refine pr_istore_n dX12_sizes_35 (by decide) rfl ?_
  refine pr_aload_n dX12_sizes_36 rfl ?_
  refine pr_iload_n dX12_sizes_37 rfl ?_
  refine pr_iconst dX12_sizes_38 ?_
  refine pr_iconst dX12_sizes_39 ?_
  obtain ⟨q5, e6, h⟩ := pm_bs h
  refine pr_callV (As := [pv_i x1, pv_i 0, pv_i 3]) (S := []) (t := 0) dX12_sizes_40 mk_X12_144 lm_0 (ci := 12) (q := (RX12, TX12, 36)) rfl rfl rfl rfl (Nat.le_of_ble_eq_true rfl) (by decide) (by decide) (Or.inl rfl) (tmX12_put e6) ?_
  refine pr_aload_n dX12_sizes_43 rfl ?_
  refine pr_iload_n dX12_sizes_44 rfl ?_
  refine pr_bipush dX12_sizes_45 (by decide) ?_
  refine pr_iload_n dX12_sizes_47 rfl ?_
  obtain ⟨q7, e8, h⟩ := pm_bs h
  refine pr_callV (As := [pv_i x1, pv_i 7, pv_i (pm_max 0 (58 - (Int.tdiv (wr (q1 - q3)) 24)))]) (S := []) (t := 0) dX12_sizes_48 mk_X12_144 lm_0 (ci := 12) (q := (RX12, TX12, 36)) rfl rfl rfl rfl (Nat.le_of_ble_eq_true rfl) (by decide) (by decide) (Or.inl rfl) (tmX12_put e8) ?_
  refine pr_aload_n dX12_sizes_51 rfl ?_
  refine pr_getR dX12_sizes_52 lk_X12_31 lm_0 rfl ?_
  refine pr_bipush dX12_sizes_55 (by decide) ?_
  refine pr_aload_n dX12_sizes_57 rfl ?_
  refine pr_iload_n dX12_sizes_58 rfl ?_
  refine pr_iconst dX12_sizes_59 ?_
  obtain ⟨q9, e10, h⟩ := pm_bs h
  refine pr_callV (As := [pv_i x1, pv_i 2]) (S := [pv_i 9, pv_r 8]) (t := 0) dX12_sizes_60 mk_X12_138 lm_0 (ci := 12) (q := (RX12, TX12, 36)) rfl rfl rfl rfl (Nat.le_of_ble_eq_true rfl) (by decide) (by decide) (Or.inl rfl) (tmX12_post e10) ?_
  refine pr_imul dX12_sizes_63 ?_
  refine pr_aload_n dX12_sizes_64 rfl ?_
  refine pr_getR dX12_sizes_65 lk_X12_40 lm_0 rfl ?_
  refine pr_aload_n dX12_sizes_68 rfl ?_
  refine pr_iload_n dX12_sizes_69 rfl ?_
  refine pr_iconst dX12_sizes_70 ?_
  obtain ⟨q11, e12, h⟩ := pm_bs h
  refine pr_callV (As := [pv_i x1, pv_i 1]) (S := [pv_r 11, pv_i (9 * q9), pv_r 8]) (t := 0) dX12_sizes_71 mk_X12_138 lm_0 (ci := 12) (q := (RX12, TX12, 36)) rfl rfl rfl rfl (Nat.le_of_ble_eq_true rfl) (by decide) (by decide) (Or.inl rfl) (tmX12_post e12) ?_
  obtain ⟨g_13, h⟩ := pm_gs h
  refine pr_iald dX12_sizes_74 lm_11 rfl g_13 ?_
  refine pr_iadd dX12_sizes_75 ?_
  refine pr_dup2 dX12_sizes_76 rfl rfl ?_
  obtain ⟨g_14, h⟩ := pm_gs h
  refine pr_iald dX12_sizes_77 lm_8 rfl g_14 ?_
  refine pr_iload_n dX12_sizes_78 rfl ?_
  refine pr_iadd dX12_sizes_79 ?_
  obtain ⟨g_15, h⟩ := pm_gs h
  refine pr_iast dX12_sizes_80 lm_8 rfl g_15 ?_
  refine pr_iload_n dX12_sizes_81 rfl ?_
  have h := Option.some.inj h
  subst h
  exact pr_iret dX12_sizes_82 rfl
def fX12_size (x1 : Int) (σ : pm_M) : Option (Int × pm_M) :=
  (fX12_isIn x1 (σ 25 (Int.toNat 752))).bind fun q1 => if (wr q1) = 0 then ((fX12_refuse (-1) σ).bind fun q14 => some (q14.1, q14.2)) else ((fX12_post x1 0 σ).bind fun q4 => if (wr q4) = 2 then (if (wr (σ 0 19)) = 0 then ((fX12_refuse (-3) σ).bind fun q12 => some (q12.1, q12.2)) else ((fX12_sizes x1 σ).bind fun q10 => some (q10.1, q10.2))) else ((fX12_refuse (-3) σ).bind fun q7 => some (q7.1, q7.2)))
set_option maxHeartbeats 4000000 in
set_option maxRecDepth 100000 in
theorem tmX12_size {x1 : Int} {σ : pm_M} {ρ : Int × pm_M} (h : fX12_size x1 σ = some ρ) : pm_C mX12_size 2 46 [pv_r 0, pv_i x1] LAYM σ (some (pv_i ρ.1)) LAYM ρ.2 := by
  refine pm_C.of (by decide) rfl (Nat.le_of_ble_eq_true rfl) ?_
  show pm_J mX12_size 2 46 LAYM (some (pv_i ρ.1)) LAYM ρ.2 0 [some (pv_r 0), some (pv_i x1)] [] LAYM σ
  unfold fX12_size at h
  refine pr_iload_n dX12_size_0 rfl ?_
  refine pr_aload_n dX12_size_1 rfl ?_
  refine pr_getR dX12_size_2 lk_X12_86 lm_0 rfl ?_
  refine pr_sipush dX12_size_5 (by decide) ?_
  refine pr_iald dX12_size_8 lm_25 (wr_eq (by decide) (by decide)) ⟨by decide, by decide⟩ ?_
  obtain ⟨q1, e2, h⟩ := pm_bs h
  refine pr_callS (av := [pv_i x1, pv_i (σ 25 (Int.toNat 752))]) (S := []) dX12_size_9 mk_X12_95 rfl rfl (Nat.le_of_ble_eq_true rfl) (by decide) (by decide) (Or.inl rfl) (tmX12_isIn e2) ?_
  refine pr_if_ne (tgt := 21) dX12_size_12 rfl (by decide) (fun c_3 => ?_) (fun c_3 => ?_)
  · have h := pm_ng c_3 h
    refine pr_aload_n dX12_size_21 rfl ?_
    refine pr_iload_n dX12_size_22 rfl ?_
    refine pr_iconst dX12_size_23 ?_
    obtain ⟨q4, e5, h⟩ := pm_bs h
    refine pr_callV (As := [pv_i x1, pv_i 0]) (S := []) (t := 0) dX12_size_24 mk_X12_138 lm_0 (ci := 12) (q := (RX12, TX12, 36)) rfl rfl rfl rfl (Nat.le_of_ble_eq_true rfl) (by decide) (by decide) (Or.inl rfl) (tmX12_post e5) ?_
    refine pr_iconst dX12_size_27 ?_
    refine pr_icmp_ne (tgt := 38) dX12_size_28 rfl (wr_eq (by decide) (by decide)) (by decide) (fun c_6 => ?_) (fun c_6 => ?_)
    · have h := pm_ng c_6 h
      refine pr_aload_n dX12_size_38 rfl ?_
      refine pr_bipush dX12_size_39 (by decide) ?_
      obtain ⟨q7, e8, h⟩ := pm_bs h
      refine pr_callV (As := [pv_i (-3)]) (S := []) (t := 0) dX12_size_41 mk_X12_103 lm_0 (ci := 12) (q := (RX12, TX12, 36)) rfl rfl rfl rfl (Nat.le_of_ble_eq_true rfl) (by decide) (by decide) (Or.inl rfl) (tmX12_refuse e8) ?_
      refine pr_goto (tgt := 52) dX12_size_44 (by decide) ?_
      have h := Option.some.inj h
      subst h
      exact pr_iret dX12_size_52 rfl
    · have h := pm_pos c_6 h
      refine pr_aload_n dX12_size_31 rfl ?_
      refine pr_getI dX12_size_32 lk_X12_135 lm_0 rfl ?_
      refine pr_if_ne (tgt := 47) dX12_size_35 rfl (by decide) (fun c_9 => ?_) (fun c_9 => ?_)
      · have h := pm_ng c_9 h
        refine pr_aload_n dX12_size_47 rfl ?_
        refine pr_iload_n dX12_size_48 rfl ?_
        obtain ⟨q10, e11, h⟩ := pm_bs h
        refine pr_callV (As := [pv_i x1]) (S := []) (t := 0) dX12_size_49 mk_X12_148 lm_0 (ci := 12) (q := (RX12, TX12, 36)) rfl rfl rfl rfl (Nat.le_of_ble_eq_true rfl) (by decide) (by decide) (Or.inl rfl) (tmX12_sizes e11) ?_
        have h := Option.some.inj h
        subst h
        exact pr_iret dX12_size_52 rfl
      · have h := pm_pos c_9 h
        refine pr_aload_n dX12_size_38 rfl ?_
        refine pr_bipush dX12_size_39 (by decide) ?_
        obtain ⟨q12, e13, h⟩ := pm_bs h
        refine pr_callV (As := [pv_i (-3)]) (S := []) (t := 0) dX12_size_41 mk_X12_103 lm_0 (ci := 12) (q := (RX12, TX12, 36)) rfl rfl rfl rfl (Nat.le_of_ble_eq_true rfl) (by decide) (by decide) (Or.inl rfl) (tmX12_refuse e13) ?_
        refine pr_goto (tgt := 52) dX12_size_44 (by decide) ?_
        have h := Option.some.inj h
        subst h
        exact pr_iret dX12_size_52 rfl
  · have h := pm_pos c_3 h
    refine pr_aload_n dX12_size_15 rfl ?_
    refine pr_iconst dX12_size_16 ?_
    obtain ⟨q14, e15, h⟩ := pm_bs h
    refine pr_callV (As := [pv_i (-1)]) (S := []) (t := 0) dX12_size_17 mk_X12_103 lm_0 (ci := 12) (q := (RX12, TX12, 36)) rfl rfl rfl rfl (Nat.le_of_ble_eq_true rfl) (by decide) (by decide) (Or.inl rfl) (tmX12_refuse e15) ?_
    have h := Option.some.inj h
    subst h
    exact pr_iret dX12_size_20 rfl
