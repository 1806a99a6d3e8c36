def fX11_loft (x1 : Int) (σ : pm_M) : Option (Int × pm_M) :=
  if 0 ≤ (wr x1) then (if (wr x1) ≤ 40 then (some ((σ 26 11), (pm_up σ 26 11 x1))) else ((fX11_refuse (-6) σ).bind fun q3 => some (q3.1, q3.2))) else ((fX11_refuse (-4) σ).bind fun q5 => some (q5.1, q5.2))
set_option maxHeartbeats 4000000 in
set_option maxRecDepth 100000 in
theorem tmX11_loft {x1 : Int} {σ : pm_M} {ρ : Int × pm_M} (h : fX11_loft x1 σ = some ρ) : pm_C mX11_loft 1 21 [pv_r 0, pv_i x1] LAYC σ (some (pv_i ρ.1)) LAYC ρ.2 := by
  refine pm_C.of (by decide) rfl (Nat.le_of_ble_eq_true rfl) ?_
  show pm_J mX11_loft 1 21 LAYC (some (pv_i ρ.1)) LAYC ρ.2 0 [some (pv_r 0), some (pv_i x1), none] [] LAYC σ
  unfold fX11_loft at h
  refine pr_iload_n dX11_loft_0 rfl ?_
  refine pr_if_ge (tgt := 11) dX11_loft_1 rfl (by decide) (fun c_1 => ?_) (fun c_1 => ?_)
  · have h := pm_pos c_1 h
    refine pr_iload_n dX11_loft_11 rfl ?_
    refine pr_bipush dX11_loft_12 (by decide) ?_
    refine pr_icmp_le (tgt := 24) dX11_loft_14 rfl (wr_eq (by decide) (by decide)) (by decide) (fun c_2 => ?_) (fun c_2 => ?_)
    · have h := pm_pos c_2 h
      refine pr_aload_n dX11_loft_24 rfl ?_
      refine pr_getR dX11_loft_25 lk_X11_28 lc_0 rfl ?_
      refine pr_getR dX11_loft_28 lk_X11_44 lc_15 rfl ?_
      refine pr_getI dX11_loft_31 lk_X11_185 lc_26 rfl ?_
      refine pr_istore_n dX11_loft_34 (by decide) rfl ?_
      refine pr_aload_n dX11_loft_35 rfl ?_
      refine pr_getR dX11_loft_36 lk_X11_28 lc_0 rfl ?_
      refine pr_getR dX11_loft_39 lk_X11_44 lc_15 rfl ?_
      refine pr_iload_n dX11_loft_42 rfl ?_
      refine pr_putI dX11_loft_43 lp_X11_185 lc_26 rfl ?_
      refine pr_iload_n dX11_loft_46 rfl ?_
      have h := Option.some.inj h
      subst h
      exact pr_iret dX11_loft_47 rfl
    · have h := pm_ng c_2 h
      refine pr_aload_n dX11_loft_17 rfl ?_
      refine pr_bipush dX11_loft_18 (by decide) ?_
      obtain ⟨q3, e4, h⟩ := pm_bs h
      refine pr_callV (As := [pv_i (-6)]) (S := []) (t := 0) dX11_loft_20 mk_X11_69 lc_0 (ci := 11) (q := (RX11, TX11, 11)) rfl rfl rfl rfl (Nat.le_of_ble_eq_true rfl) (by decide) (by decide) (Or.inl rfl) (tmX11_refuse e4) ?_
      have h := Option.some.inj h
      subst h
      exact pr_iret dX11_loft_23 rfl
  · have h := pm_ng c_1 h
    refine pr_aload_n dX11_loft_4 rfl ?_
    refine pr_bipush dX11_loft_5 (by decide) ?_
    obtain ⟨q5, e6, h⟩ := pm_bs h
    refine pr_callV (As := [pv_i (-4)]) (S := []) (t := 0) dX11_loft_7 mk_X11_69 lc_0 (ci := 11) (q := (RX11, TX11, 11)) rfl rfl rfl rfl (Nat.le_of_ble_eq_true rfl) (by decide) (by decide) (Or.inl rfl) (tmX11_refuse e6) ?_
    have h := Option.some.inj h
    subst h
    exact pr_iret dX11_loft_10 rfl
def fX11_hides (x1 : Int) (σ : pm_M) : Option (Int × pm_M) :=
  if 1 ≤ (wr x1) then (if (wr x1) ≤ (wr (1000 - (σ 0 9))) then (some (((pm_up σ 0 9 ((σ 0 9) + x1)) 0 9), (pm_up σ 0 9 ((σ 0 9) + x1)))) else ((fX11_refuse (-6) σ).bind fun q3 => some (q3.1, q3.2))) else ((fX11_refuse (-4) σ).bind fun q5 => some (q5.1, q5.2))
set_option maxHeartbeats 4000000 in
set_option maxRecDepth 100000 in
theorem tmX11_hides {x1 : Int} {σ : pm_M} {ρ : Int × pm_M} (h : fX11_hides x1 σ = some ρ) : pm_C mX11_hides 1 21 [pv_r 0, pv_i x1] LAYC σ (some (pv_i ρ.1)) LAYC ρ.2 := by
  refine pm_C.of (by decide) rfl (Nat.le_of_ble_eq_true rfl) ?_
  show pm_J mX11_hides 1 21 LAYC (some (pv_i ρ.1)) LAYC ρ.2 0 [some (pv_r 0), some (pv_i x1)] [] LAYC σ
  unfold fX11_hides at h
  refine pr_iload_n dX11_hides_0 rfl ?_
  refine pr_iconst dX11_hides_1 ?_
  refine pr_icmp_ge (tgt := 12) dX11_hides_2 rfl (wr_eq (by decide) (by decide)) (by decide) (fun c_1 => ?_) (fun c_1 => ?_)
  · have h := pm_pos c_1 h
    refine pr_iload_n dX11_hides_12 rfl ?_
    refine pr_sipush dX11_hides_13 (by decide) ?_
    refine pr_aload_n dX11_hides_16 rfl ?_
    refine pr_getI dX11_hides_17 lk_X11_190 lc_0 rfl ?_
    refine pr_isub dX11_hides_20 ?_
    refine pr_icmp_le (tgt := 31) dX11_hides_21 rfl rfl (by decide) (fun c_2 => ?_) (fun c_2 => ?_)
    · have h := pm_pos c_2 h
      refine pr_aload_n dX11_hides_31 rfl ?_
      refine pr_dup dX11_hides_32 rfl ?_
      refine pr_getI dX11_hides_33 lk_X11_190 lc_0 rfl ?_
      refine pr_iload_n dX11_hides_36 rfl ?_
      refine pr_iadd dX11_hides_37 ?_
      refine pr_putI dX11_hides_38 lp_X11_190 lc_0 rfl ?_
      refine pr_aload_n dX11_hides_41 rfl ?_
      refine pr_getI dX11_hides_42 lk_X11_190 lc_0 rfl ?_
      have h := Option.some.inj h
      subst h
      exact pr_iret dX11_hides_45 rfl
    · have h := pm_ng c_2 h
      refine pr_aload_n dX11_hides_24 rfl ?_
      refine pr_bipush dX11_hides_25 (by decide) ?_
      obtain ⟨q3, e4, h⟩ := pm_bs h
      refine pr_callV (As := [pv_i (-6)]) (S := []) (t := 0) dX11_hides_27 mk_X11_69 lc_0 (ci := 11) (q := (RX11, TX11, 11)) rfl rfl rfl rfl (Nat.le_of_ble_eq_true rfl) (by decide) (by decide) (Or.inl rfl) (tmX11_refuse e4) ?_
      have h := Option.some.inj h
      subst h
      exact pr_iret dX11_hides_30 rfl
  · have h := pm_ng c_1 h
    refine pr_aload_n dX11_hides_5 rfl ?_
    refine pr_bipush dX11_hides_6 (by decide) ?_
    obtain ⟨q5, e6, h⟩ := pm_bs h
    refine pr_callV (As := [pv_i (-4)]) (S := []) (t := 0) dX11_hides_8 mk_X11_69 lc_0 (ci := 11) (q := (RX11, TX11, 11)) rfl rfl rfl rfl (Nat.le_of_ble_eq_true rfl) (by decide) (by decide) (Or.inl rfl) (tmX11_refuse e6) ?_
    have h := Option.some.inj h
    subst h
    exact pr_iret dX11_hides_11 rfl
def fX11_sizePost (x1 : Int) (σ : pm_M) : Option (Int × pm_M) :=
  (fX6_finish 15 x1 (pm_up σ 0 9 ((σ 0 9) - 1))).bind fun q1 => pm_g (0 ≤ (wr x1) ∧ (wr x1) < 80) (pm_g (0 ≤ (wr (q1.2 30 (Int.toNat (wr x1)))) ∧ (wr (q1.2 30 (Int.toNat (wr x1)))) < 4) (pm_g (0 ≤ (wr x1) ∧ (wr x1) < 80) ((fX11_shelfOf (q1.2 31 (Int.toNat (wr x1))) (q1.2 23 (Int.toNat (wr (q1.2 30 (Int.toNat (wr x1))))))).bind fun q6 => pm_g (0 ≤ (wr q6) ∧ (wr q6) < 81) (pm_g (0 ≤ (wr q6) ∧ (wr q6) < 81) (some (q1.1, (pm_up q1.2 92 (Int.toNat (wr q6)) ((q1.2 92 (Int.toNat (wr q6))) + q1.1))))))))
set_option maxHeartbeats 4000000 in
set_option maxRecDepth 100000 in
theorem tmX11_sizePost {x1 : Int} {σ : pm_M} {ρ : Int × pm_M} (h : fX11_sizePost x1 σ = some ρ) : pm_C mX11_sizePost 2 43 [pv_r 0, pv_i x1] LAYC σ (some (pv_i ρ.1)) LAYC ρ.2 := by
  refine pm_C.of (by decide) rfl (Nat.le_of_ble_eq_true rfl) ?_
  show pm_J mX11_sizePost 2 43 LAYC (some (pv_i ρ.1)) LAYC ρ.2 0 [some (pv_r 0), some (pv_i x1), none, none] [] LAYC σ
  unfold fX11_sizePost at h
  refine pr_aload_n dX11_sizePost_0 rfl ?_
  refine pr_dup dX11_sizePost_1 rfl ?_
  refine pr_getI dX11_sizePost_2 lk_X11_190 lc_0 rfl ?_
  refine pr_iconst dX11_sizePost_5 ?_
  refine pr_isub dX11_sizePost_6 ?_
  refine pr_putI dX11_sizePost_7 lp_X11_190 lc_0 rfl ?_
  refine pr_aload_n dX11_sizePost_10 rfl ?_
  refine pr_getR dX11_sizePost_11 lk_X11_28 lc_0 rfl ?_
  refine pr_getR dX11_sizePost_14 lk_X11_44 lc_15 rfl ?_
  refine pr_iload_n dX11_sizePost_17 rfl ?_
  obtain ⟨q1, e2, h⟩ := pm_bs h
  refine pr_callV (As := [pv_i x1]) (S := []) (t := 26) dX11_sizePost_18 mk_X11_351 lc_26 (ci := 6) (q := (RX6, TX6, 12)) rfl rfl rfl rfl (Nat.le_of_ble_eq_true rfl) (by decide) (by decide) (Or.inl rfl) (tmX6_finish (Or.inl rfl) e2) ?_
  refine pr_istore_n dX11_sizePost_21 (by decide) rfl ?_
  refine pr_aload_n dX11_sizePost_22 rfl ?_
  refine pr_getR dX11_sizePost_23 lk_X11_28 lc_0 rfl ?_
  refine pr_getR dX11_sizePost_26 lk_X11_142 lc_15 rfl ?_
  refine pr_getR dX11_sizePost_29 lk_X11_354 lc_22 rfl ?_
  refine pr_aload_n dX11_sizePost_32 rfl ?_
  refine pr_getR dX11_sizePost_33 lk_X11_28 lc_0 rfl ?_
  refine pr_getR dX11_sizePost_36 lk_X11_44 lc_15 rfl ?_
  refine pr_getR dX11_sizePost_39 lk_X11_298 lc_26 rfl ?_
  refine pr_iload_n dX11_sizePost_42 rfl ?_
  obtain ⟨g_3, h⟩ := pm_gs h
  refine pr_iald dX11_sizePost_43 lc_30 rfl g_3 ?_
  obtain ⟨g_4, h⟩ := pm_gs h
  refine pr_iald dX11_sizePost_44 lc_23 rfl g_4 ?_
  refine pr_istore_n dX11_sizePost_45 (by decide) rfl ?_
  refine pr_aload_n dX11_sizePost_46 rfl ?_
  refine pr_getR dX11_sizePost_47 lk_X11_59 lc_0 rfl ?_
  refine pr_aload_n dX11_sizePost_50 rfl ?_
  refine pr_getR dX11_sizePost_51 lk_X11_28 lc_0 rfl ?_
  refine pr_getR dX11_sizePost_54 lk_X11_44 lc_15 rfl ?_
  refine pr_getR dX11_sizePost_57 lk_X11_326 lc_26 rfl ?_
  refine pr_iload_n dX11_sizePost_60 rfl ?_
  obtain ⟨g_5, h⟩ := pm_gs h
  refine pr_iald dX11_sizePost_61 lc_31 rfl g_5 ?_
  refine pr_iload_n dX11_sizePost_62 rfl ?_
  obtain ⟨q6, e7, h⟩ := pm_bs h
  refine pr_callS (av := [pv_i (q1.2 31 (Int.toNat (wr x1))), pv_i (q1.2 23 (Int.toNat (wr (q1.2 30 (Int.toNat (wr x1))))))]) (S := [pv_r 92]) dX11_sizePost_63 mk_X11_216 rfl rfl (Nat.le_of_ble_eq_true rfl) (by decide) (by decide) (Or.inl rfl) (tmX11_shelfOf e7) ?_
  refine pr_dup2 dX11_sizePost_66 rfl rfl ?_
  obtain ⟨g_8, h⟩ := pm_gs h
  refine pr_iald dX11_sizePost_67 lc_92 rfl g_8 ?_
  refine pr_iload_n dX11_sizePost_68 rfl ?_
  refine pr_iadd dX11_sizePost_69 ?_
  obtain ⟨g_9, h⟩ := pm_gs h
  refine pr_iast dX11_sizePost_70 lc_92 rfl g_9 ?_
  refine pr_iload_n dX11_sizePost_71 rfl ?_
  have h := Option.some.inj h
  subst h
  exact pr_iret dX11_sizePost_72 rfl
def fX11_size (x1 : Int) (σ : pm_M) : Option (Int × pm_M) :=
  (fX11_isNumber x1 (σ 26 8)).bind fun q1 => if (wr q1) = 0 then ((fX11_refuse (-1) σ).bind fun q14 => some (q14.1, q14.2)) else ((fX6_stateOf 15 x1 σ).bind fun q4 => if (wr q4) = 2 then (if (wr (σ 0 9)) = 0 then ((fX11_refuse (-3) σ).bind fun q12 => some (q12.1, q12.2)) else ((fX11_sizePost x1 σ).bind fun q10 => some (q10.1, q10.2))) else ((fX11_refuse (-3) σ).bind fun q7 => some (q7.1, q7.2)))
set_option maxHeartbeats 4000000 in
set_option maxRecDepth 100000 in
theorem tmX11_size {x1 : Int} {σ : pm_M} {ρ : Int × pm_M} (h : fX11_size x1 σ = some ρ) : pm_C mX11_size 3 66 [pv_r 0, pv_i x1] LAYC σ (some (pv_i ρ.1)) LAYC ρ.2 := by
  refine pm_C.of (by decide) rfl (Nat.le_of_ble_eq_true rfl) ?_
  show pm_J mX11_size 3 66 LAYC (some (pv_i ρ.1)) LAYC ρ.2 0 [some (pv_r 0), some (pv_i x1)] [] LAYC σ
  unfold fX11_size at h
  refine pr_iload_n dX11_size_0 rfl ?_
  refine pr_aload_n dX11_size_1 rfl ?_
  refine pr_getR dX11_size_2 lk_X11_28 lc_0 rfl ?_
  refine pr_getR dX11_size_5 lk_X11_44 lc_15 rfl ?_
  refine pr_getI dX11_size_8 lk_X11_193 lc_26 rfl ?_
  obtain ⟨q1, e2, h⟩ := pm_bs h
  refine pr_callS (av := [pv_i x1, pv_i (σ 26 8)]) (S := []) dX11_size_11 mk_X11_65 rfl rfl (Nat.le_of_ble_eq_true rfl) (by decide) (by decide) (Or.inl rfl) (tmX11_isNumber e2) ?_
  refine pr_if_ne (tgt := 23) dX11_size_14 rfl (by decide) (fun c_3 => ?_) (fun c_3 => ?_)
  · have h := pm_ng c_3 h
    refine pr_aload_n dX11_size_23 rfl ?_
    refine pr_getR dX11_size_24 lk_X11_28 lc_0 rfl ?_
    refine pr_getR dX11_size_27 lk_X11_44 lc_15 rfl ?_
    refine pr_iload_n dX11_size_30 rfl ?_
    obtain ⟨q4, e5, h⟩ := pm_bs h
    refine pr_callV (As := [pv_i x1]) (S := []) (t := 26) dX11_size_31 mk_X11_196 lc_26 (ci := 6) (q := (RX6, TX6, 12)) rfl rfl rfl rfl (Nat.le_of_ble_eq_true rfl) (by decide) (by decide) (Or.inl rfl) (tmX6_stateOf (Or.inl rfl) e5) ?_
    refine pr_iconst dX11_size_34 ?_
    refine pr_icmp_ne (tgt := 45) dX11_size_35 rfl (wr_eq (by decide) (by decide)) (by decide) (fun c_6 => ?_) (fun c_6 => ?_)
    · have h := pm_ng c_6 h
      refine pr_aload_n dX11_size_45 rfl ?_
      refine pr_bipush dX11_size_46 (by decide) ?_
      obtain ⟨q7, e8, h⟩ := pm_bs h
      refine pr_callV (As := [pv_i (-3)]) (S := []) (t := 0) dX11_size_48 mk_X11_69 lc_0 (ci := 11) (q := (RX11, TX11, 11)) rfl rfl rfl rfl (Nat.le_of_ble_eq_true rfl) (by decide) (by decide) (Or.inl rfl) (tmX11_refuse e8) ?_
      have h := Option.some.inj h
      subst h
      exact pr_iret dX11_size_51 rfl
    · have h := pm_pos c_6 h
      refine pr_aload_n dX11_size_38 rfl ?_
      refine pr_getI dX11_size_39 lk_X11_190 lc_0 rfl ?_
      refine pr_if_ne (tgt := 52) dX11_size_42 rfl (by decide) (fun c_9 => ?_) (fun c_9 => ?_)
      · have h := pm_ng c_9 h
        refine pr_aload_n dX11_size_52 rfl ?_
        refine pr_iload_n dX11_size_53 rfl ?_
        obtain ⟨q10, e11, h⟩ := pm_bs h
        refine pr_callV (As := [pv_i x1]) (S := []) (t := 0) dX11_size_54 mk_X11_199 lc_0 (ci := 11) (q := (RX11, TX11, 11)) rfl rfl rfl rfl (Nat.le_of_ble_eq_true rfl) (by decide) (by decide) (Or.inl rfl) (tmX11_sizePost e11) ?_
        have h := Option.some.inj h
        subst h
        exact pr_iret dX11_size_57 rfl
      · have h := pm_pos c_9 h
        refine pr_aload_n dX11_size_45 rfl ?_
        refine pr_bipush dX11_size_46 (by decide) ?_
        obtain ⟨q12, e13, h⟩ := pm_bs h
        refine pr_callV (As := [pv_i (-3)]) (S := []) (t := 0) dX11_size_48 mk_X11_69 lc_0 (ci := 11) (q := (RX11, TX11, 11)) rfl rfl rfl rfl (Nat.le_of_ble_eq_true rfl) (by decide) (by decide) (Or.inl rfl) (tmX11_refuse e13) ?_
        have h := Option.some.inj h
        subst h
        exact pr_iret dX11_size_51 rfl
  · have h := pm_pos c_3 h
    refine pr_aload_n dX11_size_17 rfl ?_
    refine pr_iconst dX11_size_18 ?_
    obtain ⟨q14, e15, h⟩ := pm_bs h
    refine pr_callV (As := [pv_i (-1)]) (S := []) (t := 0) dX11_size_19 mk_X11_69 lc_0 (ci := 11) (q := (RX11, TX11, 11)) rfl rfl rfl rfl (Nat.le_of_ble_eq_true rfl) (by decide) (by decide) (Or.inl rfl) (tmX11_refuse e15) ?_
    have h := Option.some.inj h
    subst h
    exact pr_iret dX11_size_22 rfl
def bdX11_sizeAll_4 (z1 : Int) (z2 : Int) (σ : pm_M) : Option ((Int × Int × pm_M) ⊕ (Int × Int × pm_M)) :=
  if (wr (σ 26 10)) ≤ (wr z2) then (some (.inl (z1, z2, σ))) else (if (wr (σ 0 9)) ≤ 0 then (some (.inl (z1, z2, σ))) else ((fX6_stateOf 15 z2 σ).bind fun q3 => if (wr q3) = 2 then ((fX11_sizePost z2 σ).bind fun q6 => some (.inr ((z1 + 1), (z2 + 1), q6.2))) else (some (.inr (z1, (z2 + 1), σ)))))
set_option maxHeartbeats 4000000 in
set_option maxRecDepth 100000 in
theorem tbX11_sizeAll_4 {lay0 lay' : List pm_S} {r : Option pm_V} {σ' : pm_M} : ∀ (a : Int × Int × pm_M) (e : (Int × Int × pm_M) ⊕ (Int × Int × pm_M)), (fun a => bdX11_sizeAll_4 a.1 a.2.1 a.2.2) a = some e → (∀ a, e = .inr a → (fun a => pm_J mX11_sizeAll 3 66 lay0 r lay' σ' 4 [some (pv_r 0), some (pv_i a.1), some (pv_i a.2.1)] [] LAYC a.2.2) a) → (∀ a, e = .inl a → (fun a => pm_J mX11_sizeAll 3 66 lay0 r lay' σ' 55 [none, some (pv_i a.1), none] [] LAYC a.2.2) a) → (fun a => pm_J mX11_sizeAll 3 66 lay0 r lay' σ' 4 [some (pv_r 0), some (pv_i a.1), some (pv_i a.2.1)] [] LAYC a.2.2) a := by
  intro a e h hc hx
  obtain ⟨z1, z2, σ⟩ := a
  have h : bdX11_sizeAll_4 z1 z2 σ = some e := h
  unfold bdX11_sizeAll_4 at h
  show pm_J mX11_sizeAll 3 66 lay0 r lay' σ' 4 [some (pv_r 0), some (pv_i z1), some (pv_i z2)] [] LAYC σ
  refine pr_iload_n dX11_sizeAll_4 rfl ?_
  refine pr_aload_n dX11_sizeAll_5 rfl ?_
  refine pr_getR dX11_sizeAll_6 lk_X11_28 lc_0 rfl ?_
  refine pr_getR dX11_sizeAll_9 lk_X11_44 lc_15 rfl ?_
  refine pr_getI dX11_sizeAll_12 lk_X11_202 lc_26 rfl ?_
  refine pr_icmp_ge (tgt := 55) dX11_sizeAll_15 rfl rfl (by decide) (fun c_1 => ?_) (fun c_1 => ?_)
  · have h := pm_pos c_1 h
    refine pr_weak (L2 := [none, some (pv_i z1), none]) ⟨Or.inl rfl, Or.inr rfl, Or.inl rfl, trivial⟩ ?_
    exact hx (z1, z2, σ) (Option.some.inj h).symm
  · have h := pm_ng c_1 h
    refine pr_aload_n dX11_sizeAll_18 rfl ?_
    refine pr_getI dX11_sizeAll_19 lk_X11_190 lc_0 rfl ?_
    refine pr_if_le (tgt := 55) dX11_sizeAll_22 rfl (by decide) (fun c_2 => ?_) (fun c_2 => ?_)
    · have h := pm_pos c_2 h
      refine pr_weak (L2 := [none, some (pv_i z1), none]) ⟨Or.inl rfl, Or.inr rfl, Or.inl rfl, trivial⟩ ?_
      exact hx (z1, z2, σ) (Option.some.inj h).symm
    · have h := pm_ng c_2 h
      refine pr_aload_n dX11_sizeAll_25 rfl ?_
      refine pr_getR dX11_sizeAll_26 lk_X11_28 lc_0 rfl ?_
      refine pr_getR dX11_sizeAll_29 lk_X11_44 lc_15 rfl ?_
      refine pr_iload_n dX11_sizeAll_32 rfl ?_
      obtain ⟨q3, e4, h⟩ := pm_bs h
      refine pr_callV (As := [pv_i z2]) (S := []) (t := 26) dX11_sizeAll_33 mk_X11_196 lc_26 (ci := 6) (q := (RX6, TX6, 12)) rfl rfl rfl rfl (Nat.le_of_ble_eq_true rfl) (by decide) (by decide) (Or.inl rfl) (tmX6_stateOf (Or.inl rfl) e4) ?_
      refine pr_iconst dX11_sizeAll_36 ?_
      refine pr_icmp_ne (tgt := 49) dX11_sizeAll_37 rfl (wr_eq (by decide) (by decide)) (by decide) (fun c_5 => ?_) (fun c_5 => ?_)
      · have h := pm_ng c_5 h
        refine pr_iinc dX11_sizeAll_49 rfl (by decide) rfl ?_
        refine pr_goto (tgt := 4) dX11_sizeAll_52 (by decide) ?_
        refine pr_weak (L2 := [some (pv_r 0), some (pv_i z1), some (pv_i (z2 + 1))]) ⟨Or.inr rfl, Or.inr rfl, Or.inr rfl, trivial⟩ ?_
        exact hc (z1, (z2 + 1), σ) (Option.some.inj h).symm
      · have h := pm_pos c_5 h
        refine pr_aload_n dX11_sizeAll_40 rfl ?_
        refine pr_iload_n dX11_sizeAll_41 rfl ?_
        obtain ⟨q6, e7, h⟩ := pm_bs h
        refine pr_callV (As := [pv_i z2]) (S := []) (t := 0) dX11_sizeAll_42 mk_X11_199 lc_0 (ci := 11) (q := (RX11, TX11, 11)) rfl rfl rfl rfl (Nat.le_of_ble_eq_true rfl) (by decide) (by decide) (Or.inl rfl) (tmX11_sizePost e7) ?_
        refine pr_pop dX11_sizeAll_45 rfl ?_
        refine pr_iinc dX11_sizeAll_46 rfl (by decide) rfl ?_
        refine pr_iinc dX11_sizeAll_49 rfl (by decide) rfl ?_
        refine pr_goto (tgt := 4) dX11_sizeAll_52 (by decide) ?_
        refine pr_weak (L2 := [some (pv_r 0), some (pv_i (z1 + 1)), some (pv_i (z2 + 1))]) ⟨Or.inr rfl, Or.inr rfl, Or.inr rfl, trivial⟩ ?_
        exact hc ((z1 + 1), (z2 + 1), q6.2) (Option.some.inj h).symm
def fX11_sizeAll (σ : pm_M) : Option (Int × pm_M) :=
  (pm_it (fun a => bdX11_sizeAll_4 a.1 a.2.1 a.2.2) pm_fuel (0, 0, σ)).bind fun v8 => some (v8.1, v8.2.2)
set_option maxHeartbeats 4000000 in
set_option maxRecDepth 100000 in
theorem tmX11_sizeAll {σ : pm_M} {ρ : Int × pm_M} (h : fX11_sizeAll σ = some ρ) : pm_C mX11_sizeAll 3 66 [pv_r 0] LAYC σ (some (pv_i ρ.1)) LAYC ρ.2 := by
  refine pm_C.of (by decide) rfl (Nat.le_of_ble_eq_true rfl) ?_
  show pm_J mX11_sizeAll 3 66 LAYC (some (pv_i ρ.1)) LAYC ρ.2 0 [some (pv_r 0), none, none] [] LAYC σ
  unfold fX11_sizeAll at h
  refine pr_iconst dX11_sizeAll_0 ?_
  refine pr_istore_n dX11_sizeAll_1 (by decide) rfl ?_
  refine pr_iconst dX11_sizeAll_2 ?_
  refine pr_istore_n dX11_sizeAll_3 (by decide) rfl ?_
  obtain ⟨v8, e9, h⟩ := pm_bs h
  refine pr_weak (L2 := [some (pv_r 0), some (pv_i 0), some (pv_i 0)]) ⟨Or.inr rfl, Or.inr rfl, Or.inr rfl, trivial⟩ ?_
  refine pm_it_J (α := Int × Int × pm_M) (β := Int × Int × pm_M) (f := fun a => bdX11_sizeAll_4 a.1 a.2.1 a.2.2) (P := fun a => pm_J mX11_sizeAll 3 66 LAYC (some (pv_i ρ.1)) LAYC ρ.2 4 [some (pv_r 0), some (pv_i a.1), some (pv_i a.2.1)] [] LAYC a.2.2) (Rx := fun a => pm_J mX11_sizeAll 3 66 LAYC (some (pv_i ρ.1)) LAYC ρ.2 55 [none, some (pv_i a.1), none] [] LAYC a.2.2) (tbX11_sizeAll_4) pm_fuel (0, 0, σ) v8 e9 ?_
  show pm_J mX11_sizeAll 3 66 LAYC (some (pv_i ρ.1)) LAYC ρ.2 55 [none, some (pv_i v8.1), none] [] LAYC v8.2.2
  refine pr_iload_n dX11_sizeAll_55 rfl ?_
  have h := Option.some.inj h
  subst h
  exact pr_iret dX11_sizeAll_56 rfl
def fX11_duty (x1 : Int) (x2 : Int) (σ : pm_M) : Option (Int × pm_M) :=
  (fX11_isWeight x1).bind fun q1 => if (wr q1) = 0 then ((fX11_refuse (-1) σ).bind fun q12 => some (q12.1, q12.2)) else (if 0 ≤ (wr x2) then (if (wr x2) ≤ 99 then (pm_g (0 ≤ (wr x1) ∧ (wr x1) < 9) (pm_g (0 ≤ (wr x1) ∧ (wr x1) < 9) (some ((σ 91 (Int.toNat (wr x1))), (pm_up σ 91 (Int.toNat (wr x1)) x2))))) else ((fX11_refuse (-6) σ).bind fun q8 => some (q8.1, q8.2))) else ((fX11_refuse (-4) σ).bind fun q10 => some (q10.1, q10.2)))
set_option maxHeartbeats 4000000 in
set_option maxRecDepth 100000 in
theorem tmX11_duty {x1 : Int} {x2 : Int} {σ : pm_M} {ρ : Int × pm_M} (h : fX11_duty x1 x2 σ = some ρ) : pm_C mX11_duty 1 21 [pv_r 0, pv_i x1, pv_i x2] LAYC σ (some (pv_i ρ.1)) LAYC ρ.2 := by
  refine pm_C.of (by decide) rfl (Nat.le_of_ble_eq_true rfl) ?_
  show pm_J mX11_duty 1 21 LAYC (some (pv_i ρ.1)) LAYC ρ.2 0 [some (pv_r 0), some (pv_i x1), some (pv_i x2), none] [] LAYC σ
  unfold fX11_duty at h
  refine pr_iload_n dX11_duty_0 rfl ?_
  obtain ⟨q1, e2, h⟩ := pm_bs h
  refine pr_callS (av := [pv_i x1]) (S := []) dX11_duty_1 mk_X11_139 rfl rfl (Nat.le_of_ble_eq_true rfl) (by decide) (by decide) (Or.inl rfl) (tmX11_isWeight e2) ?_
  refine pr_if_ne (tgt := 13) dX11_duty_4 rfl (by decide) (fun c_3 => ?_) (fun c_3 => ?_)
  · have h := pm_ng c_3 h
    refine pr_iload_n dX11_duty_13 rfl ?_
    refine pr_if_ge (tgt := 24) dX11_duty_14 rfl (by decide) (fun c_4 => ?_) (fun c_4 => ?_)
    · have h := pm_pos c_4 h
      refine pr_iload_n dX11_duty_24 rfl ?_
      refine pr_bipush dX11_duty_25 (by decide) ?_
      refine pr_icmp_le (tgt := 37) dX11_duty_27 rfl (wr_eq (by decide) (by decide)) (by decide) (fun c_5 => ?_) (fun c_5 => ?_)
      · have h := pm_pos c_5 h
        refine pr_aload_n dX11_duty_37 rfl ?_
        refine pr_getR dX11_duty_38 lk_X11_55 lc_0 rfl ?_
        refine pr_iload_n dX11_duty_41 rfl ?_
        obtain ⟨g_6, h⟩ := pm_gs h
        refine pr_iald dX11_duty_42 lc_91 rfl g_6 ?_
        refine pr_istore_n dX11_duty_43 (by decide) rfl ?_
        refine pr_aload_n dX11_duty_44 rfl ?_
        refine pr_getR dX11_duty_45 lk_X11_55 lc_0 rfl ?_
        refine pr_iload_n dX11_duty_48 rfl ?_
        refine pr_iload_n dX11_duty_49 rfl ?_
        obtain ⟨g_7, h⟩ := pm_gs h
        refine pr_iast dX11_duty_50 lc_91 rfl g_7 ?_
        refine pr_iload_n dX11_duty_51 rfl ?_
        have h := Option.some.inj h
        subst h
        exact pr_iret dX11_duty_52 rfl
      · have h := pm_ng c_5 h
        refine pr_aload_n dX11_duty_30 rfl ?_
        refine pr_bipush dX11_duty_31 (by decide) ?_
        obtain ⟨q8, e9, h⟩ := pm_bs h
        refine pr_callV (As := [pv_i (-6)]) (S := []) (t := 0) dX11_duty_33 mk_X11_69 lc_0 (ci := 11) (q := (RX11, TX11, 11)) rfl rfl rfl rfl (Nat.le_of_ble_eq_true rfl) (by decide) (by decide) (Or.inl rfl) (tmX11_refuse e9) ?_
        have h := Option.some.inj h
        subst h
        exact pr_iret dX11_duty_36 rfl
    · have h := pm_ng c_4 h
      refine pr_aload_n dX11_duty_17 rfl ?_
      refine pr_bipush dX11_duty_18 (by decide) ?_
      obtain ⟨q10, e11, h⟩ := pm_bs h
      refine pr_callV (As := [pv_i (-4)]) (S := []) (t := 0) dX11_duty_20 mk_X11_69 lc_0 (ci := 11) (q := (RX11, TX11, 11)) rfl rfl rfl rfl (Nat.le_of_ble_eq_true rfl) (by decide) (by decide) (Or.inl rfl) (tmX11_refuse e11) ?_
      have h := Option.some.inj h
      subst h
      exact pr_iret dX11_duty_23 rfl
  · have h := pm_pos c_3 h
    refine pr_aload_n dX11_duty_7 rfl ?_
    refine pr_iconst dX11_duty_8 ?_
    obtain ⟨q12, e13, h⟩ := pm_bs h
    refine pr_callV (As := [pv_i (-1)]) (S := []) (t := 0) dX11_duty_9 mk_X11_69 lc_0 (ci := 11) (q := (RX11, TX11, 11)) rfl rfl rfl rfl (Nat.le_of_ble_eq_true rfl) (by decide) (by decide) (Or.inl rfl) (tmX11_refuse e13) ?_
    have h := Option.some.inj h
    subst h
    exact pr_iret dX11_duty_12 rfl
