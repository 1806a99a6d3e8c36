def fX3_wireOf (b : Nat) (x1 : Int) (x2 : Int) (σ : pm_M) : Option (Int) :=
  pm_g (0 ≤ (wr ((x1 * 6) + x2)) ∧ (wr ((x1 * 6) + x2)) < 48) (some (σ (b + 9) (Int.toNat (wr ((x1 * 6) + x2)))))
set_option maxHeartbeats 4000000 in
set_option maxRecDepth 100000 in
theorem tmX3_wireOf {b : Nat} (hb : b = 15 ∨ b = 48) {x1 : Int} {x2 : Int} {σ : pm_M} {ρ : Int} (h : fX3_wireOf b x1 x2 σ = some ρ) : pm_C mX3_wireOf 0 0 [pv_r (b + 7), pv_i x1, pv_i x2] LAYC σ (some (pv_i ρ)) LAYC σ := by
  refine pm_C.of (by decide) rfl (Nat.le_of_ble_eq_true rfl) ?_
  show pm_J mX3_wireOf 0 0 LAYC (some (pv_i ρ)) LAYC σ 0 [some (pv_r (b + 7)), some (pv_i x1), some (pv_i x2)] [] LAYC σ
  unfold fX3_wireOf at h
  refine pr_aload_n dX3_wireOf_0 rfl ?_
  refine pr_getR dX3_wireOf_1 lk_X3_15 (lw_7 hb) rfl ?_
  refine pr_iload_n dX3_wireOf_4 rfl ?_
  refine pr_bipush dX3_wireOf_5 (by decide) ?_
  refine pr_imul dX3_wireOf_7 ?_
  refine pr_iload_n dX3_wireOf_8 rfl ?_
  refine pr_iadd dX3_wireOf_9 ?_
  obtain ⟨g_1, h⟩ := pm_gs h
  refine pr_iald dX3_wireOf_10 (lw_9 hb) rfl g_1 ?_
  have h := Option.some.inj h
  subst h
  exact pr_iret dX3_wireOf_11 rfl
def fX3_setWire (b : Nat) (x1 : Int) (x2 : Int) (x3 : Int) (σ : pm_M) : Option (pm_M) :=
  pm_g (0 ≤ (wr ((x1 * 6) + x2)) ∧ (wr ((x1 * 6) + x2)) < 48) (some (pm_up σ (b + 9) (Int.toNat (wr ((x1 * 6) + x2))) x3))
set_option maxHeartbeats 4000000 in
set_option maxRecDepth 100000 in
theorem tmX3_setWire {b : Nat} (hb : b = 15 ∨ b = 48) {x1 : Int} {x2 : Int} {x3 : Int} {σ : pm_M} {ρ : pm_M} (h : fX3_setWire b x1 x2 x3 σ = some ρ) : pm_C mX3_setWire 0 0 [pv_r (b + 7), pv_i x1, pv_i x2, pv_i x3] LAYC σ none LAYC ρ := by
  refine pm_C.of (by decide) rfl (Nat.le_of_ble_eq_true rfl) ?_
  show pm_J mX3_setWire 0 0 LAYC none LAYC ρ 0 [some (pv_r (b + 7)), some (pv_i x1), some (pv_i x2), some (pv_i x3)] [] LAYC σ
  unfold fX3_setWire at h
  refine pr_aload_n dX3_setWire_0 rfl ?_
  refine pr_getR dX3_setWire_1 lk_X3_15 (lw_7 hb) rfl ?_
  refine pr_iload_n dX3_setWire_4 rfl ?_
  refine pr_bipush dX3_setWire_5 (by decide) ?_
  refine pr_imul dX3_setWire_7 ?_
  refine pr_iload_n dX3_setWire_8 rfl ?_
  refine pr_iadd dX3_setWire_9 ?_
  refine pr_iload_n dX3_setWire_10 rfl ?_
  obtain ⟨g_1, h⟩ := pm_gs h
  refine pr_iast dX3_setWire_11 (lw_9 hb) rfl g_1 ?_
  have h := Option.some.inj h
  subst h
  exact pr_vret dX3_setWire_12 rfl
def jnX3_countSheet_73 (b : Nat) (w3 : Int) (u0 : Int) (σ : pm_M) : Option (pm_M) :=
  if (wr u0) < 0 then (some σ) else (if 99 < (wr u0) then (some σ) else (pm_g (0 ≤ (wr w3) ∧ (wr w3) < 48) (some (pm_up σ (b + 9) (Int.toNat (wr w3)) u0))))
set_option maxHeartbeats 4000000 in
set_option maxRecDepth 100000 in
theorem tjX3_countSheet_73 {lay0 : List pm_S} {b : Nat} (hb : b = 15 ∨ b = 48) {w3 : Int} {u0 : Int} {σ : pm_M} {ρ : pm_M} (h : jnX3_countSheet_73 b w3 u0 σ = some ρ) : pm_J mX3_countSheet 0 0 lay0 none LAYC ρ 73 [some (pv_r (b + 7)), none, none, some (pv_i w3), none] [pv_i u0] LAYC σ := by
  unfold jnX3_countSheet_73 at h
  refine pr_istore dX3_countSheet_73 (by decide) rfl ?_
  refine pr_iload dX3_countSheet_75 rfl ?_
  refine pr_if_lt (tgt := 95) dX3_countSheet_77 rfl (by decide) (fun c_8 => ?_) (fun c_8 => ?_)
  · have h := pm_pos c_8 h
    have h := Option.some.inj h
    subst h
    exact pr_vret dX3_countSheet_95 rfl
  · have h := pm_ng c_8 h
    refine pr_iload dX3_countSheet_80 rfl ?_
    refine pr_bipush dX3_countSheet_82 (by decide) ?_
    refine pr_icmp_gt (tgt := 95) dX3_countSheet_84 rfl (wr_eq (by decide) (by decide)) (by decide) (fun c_9 => ?_) (fun c_9 => ?_)
    · have h := pm_pos c_9 h
      have h := Option.some.inj h
      subst h
      exact pr_vret dX3_countSheet_95 rfl
    · have h := pm_ng c_9 h
      refine pr_aload_n dX3_countSheet_87 rfl ?_
      refine pr_getR dX3_countSheet_88 lk_X3_15 (lw_7 hb) rfl ?_
      refine pr_iload_n dX3_countSheet_91 rfl ?_
      refine pr_iload dX3_countSheet_92 rfl ?_
      obtain ⟨g_10, h⟩ := pm_gs h
      refine pr_iast dX3_countSheet_94 (lw_9 hb) rfl g_10 ?_
      have h := Option.some.inj h
      subst h
      exact pr_vret dX3_countSheet_95 rfl
def fX3_countSheet (b : Nat) (x1 : Int) (σ : pm_M) : Option (pm_M) :=
  pm_g (0 ≤ (wr x1) ∧ (wr x1) < 8) (pm_g (0 ≤ (wr x1) ∧ (wr x1) < 8) (pm_g (0 ≤ (wr x1) ∧ (wr x1) < 8) (if (wr (Int.tmod (wr ((pm_up σ (b + 10) (Int.toNat (wr x1)) ((σ (b + 10) (Int.toNat (wr x1))) + 1)) (b + 10) (Int.toNat (wr x1)))) 50)) = 0 then (pm_g (0 ≤ (wr x1) ∧ (wr x1) < 8) (if (wr (Int.tmod (wr (Int.tdiv (wr (Int.tdiv (wr ((pm_up σ (b + 10) (Int.toNat (wr x1)) ((σ (b + 10) (Int.toNat (wr x1))) + 1)) (b + 10) (Int.toNat (wr x1)))) 50)) 6)) 2)) = 0 then (pm_g (0 ≤ (wr ((x1 * 6) + (Int.tmod (wr ((Int.tdiv (wr ((pm_up σ (b + 10) (Int.toNat (wr x1)) ((σ (b + 10) (Int.toNat (wr x1))) + 1)) (b + 10) (Int.toNat (wr x1)))) 50) + x1)) 6))) ∧ (wr ((x1 * 6) + (Int.tmod (wr ((Int.tdiv (wr ((pm_up σ (b + 10) (Int.toNat (wr x1)) ((σ (b + 10) (Int.toNat (wr x1))) + 1)) (b + 10) (Int.toNat (wr x1)))) 50) + x1)) 6))) < 48) (jnX3_countSheet_73 b ((x1 * 6) + (Int.tmod (wr ((Int.tdiv (wr ((pm_up σ (b + 10) (Int.toNat (wr x1)) ((σ (b + 10) (Int.toNat (wr x1))) + 1)) (b + 10) (Int.toNat (wr x1)))) 50) + x1)) 6)) (((pm_up σ (b + 10) (Int.toNat (wr x1)) ((σ (b + 10) (Int.toNat (wr x1))) + 1)) (b + 9) (Int.toNat (wr ((x1 * 6) + (Int.tmod (wr ((Int.tdiv (wr ((pm_up σ (b + 10) (Int.toNat (wr x1)) ((σ (b + 10) (Int.toNat (wr x1))) + 1)) (b + 10) (Int.toNat (wr x1)))) 50) + x1)) 6))))) + 1) (pm_up σ (b + 10) (Int.toNat (wr x1)) ((σ (b + 10) (Int.toNat (wr x1))) + 1)))) else (pm_g (0 ≤ (wr ((x1 * 6) + (Int.tmod (wr ((Int.tdiv (wr ((pm_up σ (b + 10) (Int.toNat (wr x1)) ((σ (b + 10) (Int.toNat (wr x1))) + 1)) (b + 10) (Int.toNat (wr x1)))) 50) + x1)) 6))) ∧ (wr ((x1 * 6) + (Int.tmod (wr ((Int.tdiv (wr ((pm_up σ (b + 10) (Int.toNat (wr x1)) ((σ (b + 10) (Int.toNat (wr x1))) + 1)) (b + 10) (Int.toNat (wr x1)))) 50) + x1)) 6))) < 48) (jnX3_countSheet_73 b ((x1 * 6) + (Int.tmod (wr ((Int.tdiv (wr ((pm_up σ (b + 10) (Int.toNat (wr x1)) ((σ (b + 10) (Int.toNat (wr x1))) + 1)) (b + 10) (Int.toNat (wr x1)))) 50) + x1)) 6)) (((pm_up σ (b + 10) (Int.toNat (wr x1)) ((σ (b + 10) (Int.toNat (wr x1))) + 1)) (b + 9) (Int.toNat (wr ((x1 * 6) + (Int.tmod (wr ((Int.tdiv (wr ((pm_up σ (b + 10) (Int.toNat (wr x1)) ((σ (b + 10) (Int.toNat (wr x1))) + 1)) (b + 10) (Int.toNat (wr x1)))) 50) + x1)) 6))))) - 1) (pm_up σ (b + 10) (Int.toNat (wr x1)) ((σ (b + 10) (Int.toNat (wr x1))) + 1)))))) else (some (pm_up σ (b + 10) (Int.toNat (wr x1)) ((σ (b + 10) (Int.toNat (wr x1))) + 1))))))
set_option maxHeartbeats 4000000 in
set_option maxRecDepth 100000 in
theorem tmX3_countSheet {b : Nat} (hb : b = 15 ∨ b = 48) {x1 : Int} {σ : pm_M} {ρ : pm_M} (h : fX3_countSheet b x1 σ = some ρ) : pm_C mX3_countSheet 0 0 [pv_r (b + 7), pv_i x1] LAYC σ none LAYC ρ := by
  refine pm_C.of (by decide) rfl (Nat.le_of_ble_eq_true rfl) ?_
  show pm_J mX3_countSheet 0 0 LAYC none LAYC ρ 0 [some (pv_r (b + 7)), some (pv_i x1), none, none, none] [] LAYC σ
  unfold fX3_countSheet at h
  refine pr_aload_n dX3_countSheet_0 rfl ?_
  refine pr_getR dX3_countSheet_1 lk_X3_18 (lw_7 hb) rfl ?_
  refine pr_iload_n dX3_countSheet_4 rfl ?_
  refine pr_dup2 dX3_countSheet_5 rfl rfl ?_
  obtain ⟨g_1, h⟩ := pm_gs h
  refine pr_iald dX3_countSheet_6 (lw_10 hb) rfl g_1 ?_
  refine pr_iconst dX3_countSheet_7 ?_
  refine pr_iadd dX3_countSheet_8 ?_
  obtain ⟨g_2, h⟩ := pm_gs h
  refine pr_iast dX3_countSheet_9 (lw_10 hb) rfl g_2 ?_
  refine pr_aload_n dX3_countSheet_10 rfl ?_
  refine pr_getR dX3_countSheet_11 lk_X3_18 (lw_7 hb) rfl ?_
  refine pr_iload_n dX3_countSheet_14 rfl ?_
  obtain ⟨g_3, h⟩ := pm_gs h
  refine pr_iald dX3_countSheet_15 (lw_10 hb) rfl g_3 ?_
  refine pr_bipush dX3_countSheet_16 (by decide) ?_
  refine pr_irem dX3_countSheet_18 rfl (wr_eq (by decide) (by decide)) (by decide) ?_
  refine pr_if_eq (tgt := 23) dX3_countSheet_19 rfl (by decide) (fun c_4 => ?_) (fun c_4 => ?_)
  · have h := pm_pos c_4 h
    refine pr_aload_n dX3_countSheet_23 rfl ?_
    refine pr_getR dX3_countSheet_24 lk_X3_18 (lw_7 hb) rfl ?_
    refine pr_iload_n dX3_countSheet_27 rfl ?_
    obtain ⟨g_5, h⟩ := pm_gs h
    refine pr_iald dX3_countSheet_28 (lw_10 hb) rfl g_5 ?_
    refine pr_bipush dX3_countSheet_29 (by decide) ?_
    refine pr_idiv dX3_countSheet_31 rfl (wr_eq (by decide) (by decide)) (by decide) ?_
    refine pr_istore_n dX3_countSheet_32 (by decide) rfl ?_
    refine pr_iload_n dX3_countSheet_33 rfl ?_
    refine pr_bipush dX3_countSheet_34 (by decide) ?_
    refine pr_imul dX3_countSheet_36 ?_
    refine pr_iload_n dX3_countSheet_37 rfl ?_
    refine pr_iload_n dX3_countSheet_38 rfl ?_
    refine pr_iadd dX3_countSheet_39 ?_
    refine pr_bipush dX3_countSheet_40 (by decide) ?_
    refine pr_irem dX3_countSheet_42 rfl (wr_eq (by decide) (by decide)) (by decide) ?_
    refine pr_iadd dX3_countSheet_43 ?_
    refine pr_istore_n dX3_countSheet_44 (by decide) rfl ?_
    refine pr_iload_n dX3_countSheet_45 rfl ?_
    refine pr_bipush dX3_countSheet_46 (by decide) ?_
    refine pr_idiv dX3_countSheet_48 rfl (wr_eq (by decide) (by decide)) (by decide) ?_
    refine pr_iconst dX3_countSheet_49 ?_
    refine pr_irem dX3_countSheet_50 rfl (wr_eq (by decide) (by decide)) (by decide) ?_
    refine pr_if_ne (tgt := 65) dX3_countSheet_51 rfl (by decide) (fun c_6 => ?_) (fun c_6 => ?_)
    · have h := pm_ng c_6 h
      refine pr_aload_n dX3_countSheet_65 rfl ?_
      refine pr_getR dX3_countSheet_66 lk_X3_15 (lw_7 hb) rfl ?_
      refine pr_iload_n dX3_countSheet_69 rfl ?_
      obtain ⟨g_7, h⟩ := pm_gs h
      refine pr_iald dX3_countSheet_70 (lw_9 hb) rfl g_7 ?_
      refine pr_iconst dX3_countSheet_71 ?_
      refine pr_isub dX3_countSheet_72 ?_
      refine pr_weak (L2 := [some (pv_r (b + 7)), none, none, some (pv_i ((x1 * 6) + (Int.tmod (wr ((Int.tdiv (wr ((pm_up σ (b + 10) (Int.toNat (wr x1)) ((σ (b + 10) (Int.toNat (wr x1))) + 1)) (b + 10) (Int.toNat (wr x1)))) 50) + x1)) 6))), none]) ⟨Or.inr rfl, Or.inl rfl, Or.inl rfl, Or.inr rfl, Or.inl rfl, trivial⟩ ?_
      exact tjX3_countSheet_73 hb h
    · have h := pm_pos c_6 h
      refine pr_aload_n dX3_countSheet_54 rfl ?_
      refine pr_getR dX3_countSheet_55 lk_X3_15 (lw_7 hb) rfl ?_
      refine pr_iload_n dX3_countSheet_58 rfl ?_
      obtain ⟨g_11, h⟩ := pm_gs h
      refine pr_iald dX3_countSheet_59 (lw_9 hb) rfl g_11 ?_
      refine pr_iconst dX3_countSheet_60 ?_
      refine pr_iadd dX3_countSheet_61 ?_
      refine pr_goto (tgt := 73) dX3_countSheet_62 (by decide) ?_
      refine pr_weak (L2 := [some (pv_r (b + 7)), none, none, some (pv_i ((x1 * 6) + (Int.tmod (wr ((Int.tdiv (wr ((pm_up σ (b + 10) (Int.toNat (wr x1)) ((σ (b + 10) (Int.toNat (wr x1))) + 1)) (b + 10) (Int.toNat (wr x1)))) 50) + x1)) 6))), none]) ⟨Or.inr rfl, Or.inl rfl, Or.inl rfl, Or.inr rfl, Or.inl rfl, trivial⟩ ?_
      exact tjX3_countSheet_73 hb h
  · have h := pm_ng c_4 h
    have h := Option.some.inj h
    subst h
    exact pr_vret dX3_countSheet_22 rfl
def fX2_keep (b : Nat) (x1 : Int) (x3 : Int) (x5 : Int) (σ : pm_M) : Option (pm_M) :=
  pm_g ((0 : Int) ≤ (wr x3) ∧ (0 : Int) ≤ (wr ((x1 * 4) * 6)) ∧ (0 : Int) ≤ 12 ∧ (wr x3) + 12 ≤ 36 ∧ (wr ((x1 * 4) * 6)) + 12 ≤ 1920) (pm_g ((0 : Int) ≤ (wr (x5 * 12)) ∧ (0 : Int) ≤ (wr (((x1 * 4) * 6) + 12)) ∧ (0 : Int) ≤ 12 ∧ (wr (x5 * 12)) + 12 ≤ 48 ∧ (wr (((x1 * 4) * 6) + 12)) + 12 ≤ 1920) (pm_g (0 ≤ (wr (2 * x5)) ∧ (wr (2 * x5)) < 8) (pm_g (0 ≤ (wr x1) ∧ (wr x1) < 80) (some (pm_up (pm_cp (pm_cp σ (b + 27) (Int.toNat (wr x3)) (b + 13) (Int.toNat (wr ((x1 * 4) * 6))) (Int.toNat 12)) (b + 9) (Int.toNat (wr (x5 * 12))) (b + 13) (Int.toNat (wr (((x1 * 4) * 6) + 12))) (Int.toNat 12)) (b + 14) (Int.toNat (wr x1)) (pm_max 0 (30 - (Int.tmod (wr ((pm_cp (pm_cp σ (b + 27) (Int.toNat (wr x3)) (b + 13) (Int.toNat (wr ((x1 * 4) * 6))) (Int.toNat 12)) (b + 9) (Int.toNat (wr (x5 * 12))) (b + 13) (Int.toNat (wr (((x1 * 4) * 6) + 12))) (Int.toNat 12)) (b + 10) (Int.toNat (wr (2 * x5))))) 50))))))))
set_option maxHeartbeats 4000000 in
set_option maxRecDepth 100000 in
theorem tmX2_keep {b : Nat} (hb : b = 15 ∨ b = 48) {x1 : Int} {x3 : Int} {x5 : Int} {σ : pm_M} {ρ : pm_M} (h : fX2_keep b x1 x3 x5 σ = some ρ) : pm_C mX2_keep 1 60 [pv_r (b + 12), pv_i x1, pv_r (b + 27), pv_i x3, pv_r (b + 7), pv_i x5] LAYC σ none LAYC ρ := by
  refine pm_C.of (by decide) rfl (Nat.le_of_ble_eq_true rfl) ?_
  show pm_J mX2_keep 1 60 LAYC none LAYC ρ 0 [some (pv_r (b + 12)), some (pv_i x1), some (pv_r (b + 27)), some (pv_i x3), some (pv_r (b + 7)), some (pv_i x5), none, none] [] LAYC σ
  unfold fX2_keep at h
  refine pr_iload_n dX2_keep_0 rfl ?_
  refine pr_iconst dX2_keep_1 ?_
  refine pr_imul dX2_keep_2 ?_
  refine pr_bipush dX2_keep_3 (by decide) ?_
  refine pr_imul dX2_keep_5 ?_
  refine pr_istore dX2_keep_6 (by decide) rfl ?_
  refine pr_aload_n dX2_keep_8 rfl ?_
  refine pr_iload_n dX2_keep_9 rfl ?_
  refine pr_aload_n dX2_keep_10 rfl ?_
  refine pr_getR dX2_keep_11 lk_X2_9 (lw_12 hb) rfl ?_
  refine pr_iload dX2_keep_14 rfl ?_
  refine pr_bipush dX2_keep_16 (by decide) ?_
  obtain ⟨g_1, h⟩ := pm_gs h
  refine pr_acopy dX2_keep_18 ac_X2_18 (lw_27 hb) (lw_13 hb) rfl rfl (wr_eq (by decide) (by decide)) g_1 (by decide) (Nat.le_of_ble_eq_true rfl) ?_
  refine pr_aload dX2_keep_21 rfl ?_
  refine pr_getR dX2_keep_23 lk_X2_24 (lw_7 hb) rfl ?_
  refine pr_iload dX2_keep_26 rfl ?_
  refine pr_bipush dX2_keep_28 (by decide) ?_
  refine pr_imul dX2_keep_30 ?_
  refine pr_aload_n dX2_keep_31 rfl ?_
  refine pr_getR dX2_keep_32 lk_X2_9 (lw_12 hb) rfl ?_
  refine pr_iload dX2_keep_35 rfl ?_
  refine pr_bipush dX2_keep_37 (by decide) ?_
  refine pr_iadd dX2_keep_39 ?_
  refine pr_bipush dX2_keep_40 (by decide) ?_
  obtain ⟨g_2, h⟩ := pm_gs h
  refine pr_acopy dX2_keep_42 ac_X2_18 (lw_9 hb) (lw_13 hb) rfl rfl (wr_eq (by decide) (by decide)) g_2 (by decide) (Nat.le_of_ble_eq_true rfl) ?_
  refine pr_aload dX2_keep_45 rfl ?_
  refine pr_getR dX2_keep_47 lk_X2_27 (lw_7 hb) rfl ?_
  refine pr_iconst dX2_keep_50 ?_
  refine pr_iload dX2_keep_51 rfl ?_
  refine pr_imul dX2_keep_53 ?_
  obtain ⟨g_3, h⟩ := pm_gs h
  refine pr_iald dX2_keep_54 (lw_10 hb) rfl g_3 ?_
  refine pr_bipush dX2_keep_55 (by decide) ?_
  refine pr_irem dX2_keep_57 rfl (wr_eq (by decide) (by decide)) (by decide) ?_
  refine pr_istore dX2_keep_58 (by decide) rfl ?_
  refine pr_aload_n dX2_keep_60 rfl ?_
  refine pr_getR dX2_keep_61 lk_X2_15 (lw_12 hb) rfl ?_
  refine pr_iload_n dX2_keep_64 rfl ?_
  refine pr_iconst dX2_keep_65 ?_
  refine pr_bipush dX2_keep_66 (by decide) ?_
  refine pr_iload dX2_keep_68 rfl ?_
  refine pr_isub dX2_keep_70 ?_
  refine pr_mmax dX2_keep_71 mm_X2_30 (by decide) (Nat.le_of_ble_eq_true rfl) ?_
  obtain ⟨g_4, h⟩ := pm_gs h
  refine pr_iast dX2_keep_74 (lw_14 hb) rfl g_4 ?_
  have h := Option.some.inj h
  subst h
  exact pr_vret dX2_keep_75 rfl
def fX2_groupMark (b : Nat) (x1 : Int) (x2 : Int) (x3 : Int) (σ : pm_M) : Option (Int) :=
  pm_g (0 ≤ (wr ((((x1 * 4) + x2) * 6) + x3)) ∧ (wr ((((x1 * 4) + x2) * 6) + x3)) < 1920) (some (σ (b + 13) (Int.toNat (wr ((((x1 * 4) + x2) * 6) + x3)))))
set_option maxHeartbeats 4000000 in
set_option maxRecDepth 100000 in
theorem tmX2_groupMark {b : Nat} (hb : b = 15 ∨ b = 48) {x1 : Int} {x2 : Int} {x3 : Int} {σ : pm_M} {ρ : Int} (h : fX2_groupMark b x1 x2 x3 σ = some ρ) : pm_C mX2_groupMark 0 0 [pv_r (b + 12), pv_i x1, pv_i x2, pv_i x3] LAYC σ (some (pv_i ρ)) LAYC σ := by
  refine pm_C.of (by decide) rfl (Nat.le_of_ble_eq_true rfl) ?_
  show pm_J mX2_groupMark 0 0 LAYC (some (pv_i ρ)) LAYC σ 0 [some (pv_r (b + 12)), some (pv_i x1), some (pv_i x2), some (pv_i x3)] [] LAYC σ
  unfold fX2_groupMark at h
  refine pr_aload_n dX2_groupMark_0 rfl ?_
  refine pr_getR dX2_groupMark_1 lk_X2_9 (lw_12 hb) rfl ?_
  refine pr_iload_n dX2_groupMark_4 rfl ?_
  refine pr_iconst dX2_groupMark_5 ?_
  refine pr_imul dX2_groupMark_6 ?_
  refine pr_iload_n dX2_groupMark_7 rfl ?_
  refine pr_iadd dX2_groupMark_8 ?_
  refine pr_bipush dX2_groupMark_9 (by decide) ?_
  refine pr_imul dX2_groupMark_11 ?_
  refine pr_iload_n dX2_groupMark_12 rfl ?_
  refine pr_iadd dX2_groupMark_13 ?_
  obtain ⟨g_1, h⟩ := pm_gs h
  refine pr_iald dX2_groupMark_14 (lw_13 hb) rfl g_1 ?_
  have h := Option.some.inj h
  subst h
  exact pr_iret dX2_groupMark_15 rfl
def fX2_markOf (b : Nat) (x1 : Int) (x2 : Int) (x3 : Int) (σ : pm_M) : Option (Int) :=
  pm_g (0 ≤ (wr x1) ∧ (wr x1) < 80) (if (wr (σ (b + 14) (Int.toNat (wr x1)))) ≤ (wr (Int.tdiv (wr x2) 2)) then ((fX2_groupMark b x1 ((Int.tmod (wr x2) 2) + 2) x3 σ).bind fun q3 => some q3) else ((fX2_groupMark b x1 (Int.tmod (wr x2) 2) x3 σ).bind fun q5 => some q5))
set_option maxHeartbeats 4000000 in
set_option maxRecDepth 100000 in
theorem tmX2_markOf {b : Nat} (hb : b = 15 ∨ b = 48) {x1 : Int} {x2 : Int} {x3 : Int} {σ : pm_M} {ρ : Int} (h : fX2_markOf b x1 x2 x3 σ = some ρ) : pm_C mX2_markOf 1 23 [pv_r (b + 12), pv_i x1, pv_i x2, pv_i x3] LAYC σ (some (pv_i ρ)) LAYC σ := by
  refine pm_C.of (by decide) rfl (Nat.le_of_ble_eq_true rfl) ?_
  show pm_J mX2_markOf 1 23 LAYC (some (pv_i ρ)) LAYC σ 0 [some (pv_r (b + 12)), some (pv_i x1), some (pv_i x2), some (pv_i x3), none] [] LAYC σ
  unfold fX2_markOf at h
  refine pr_iload_n dX2_markOf_0 rfl ?_
  refine pr_iconst dX2_markOf_1 ?_
  refine pr_irem dX2_markOf_2 rfl (wr_eq (by decide) (by decide)) (by decide) ?_
  refine pr_istore dX2_markOf_3 (by decide) rfl ?_
  refine pr_aload_n dX2_markOf_5 rfl ?_
  refine pr_iload_n dX2_markOf_6 rfl ?_
  refine pr_iload_n dX2_markOf_7 rfl ?_
  refine pr_iconst dX2_markOf_8 ?_
  refine pr_idiv dX2_markOf_9 rfl (wr_eq (by decide) (by decide)) (by decide) ?_
  refine pr_aload_n dX2_markOf_10 rfl ?_
  refine pr_getR dX2_markOf_11 lk_X2_15 (lw_12 hb) rfl ?_
  refine pr_iload_n dX2_markOf_14 rfl ?_
  obtain ⟨g_1, h⟩ := pm_gs h
  refine pr_iald dX2_markOf_15 (lw_14 hb) rfl g_1 ?_
  refine pr_icmp_ge (tgt := 24) dX2_markOf_16 rfl rfl (by decide) (fun c_2 => ?_) (fun c_2 => ?_)
  · have h := pm_pos c_2 h
    refine pr_iload dX2_markOf_24 rfl ?_
    refine pr_iconst dX2_markOf_26 ?_
    refine pr_iadd dX2_markOf_27 ?_
    refine pr_iload_n dX2_markOf_28 rfl ?_
    obtain ⟨q3, e4, h⟩ := pm_bs h
    refine pr_callV (As := [pv_i x1, pv_i ((Int.tmod (wr x2) 2) + 2), pv_i x3]) (S := []) (t := (b + 12)) dX2_markOf_29 mk_X2_36 (lw_12 hb) (ci := 2) (q := (RX2, TX2, 2)) rfl rfl rfl rfl (Nat.le_of_ble_eq_true rfl) (by decide) (by decide) (Or.inl rfl) (tmX2_groupMark hb e4) ?_
    have h := Option.some.inj h
    subst h
    exact pr_iret dX2_markOf_32 rfl
  · have h := pm_ng c_2 h
    refine pr_iload dX2_markOf_19 rfl ?_
    refine pr_goto (tgt := 28) dX2_markOf_21 (by decide) ?_
    refine pr_iload_n dX2_markOf_28 rfl ?_
    obtain ⟨q5, e6, h⟩ := pm_bs h
    refine pr_callV (As := [pv_i x1, pv_i (Int.tmod (wr x2) 2), pv_i x3]) (S := []) (t := (b + 12)) dX2_markOf_29 mk_X2_36 (lw_12 hb) (ci := 2) (q := (RX2, TX2, 2)) rfl rfl rfl rfl (Nat.le_of_ble_eq_true rfl) (by decide) (by decide) (Or.inl rfl) (tmX2_groupMark hb e6) ?_
    have h := Option.some.inj h
    subst h
    exact pr_iret dX2_markOf_32 rfl
def fX2_groupSheets (b : Nat) (x1 : Int) (x2 : Int) (σ : pm_M) : Option (Int) :=
  if 2 ≤ (wr x2) then (pm_g (0 ≤ (wr x1) ∧ (wr x1) < 80) (some (30 - (σ (b + 14) (Int.toNat (wr x1)))))) else (pm_g (0 ≤ (wr x1) ∧ (wr x1) < 80) (some (σ (b + 14) (Int.toNat (wr x1)))))
set_option maxHeartbeats 4000000 in
set_option maxRecDepth 100000 in
theorem tmX2_groupSheets {b : Nat} (hb : b = 15 ∨ b = 48) {x1 : Int} {x2 : Int} {σ : pm_M} {ρ : Int} (h : fX2_groupSheets b x1 x2 σ = some ρ) : pm_C mX2_groupSheets 0 0 [pv_r (b + 12), pv_i x1, pv_i x2] LAYC σ (some (pv_i ρ)) LAYC σ := by
  refine pm_C.of (by decide) rfl (Nat.le_of_ble_eq_true rfl) ?_
  show pm_J mX2_groupSheets 0 0 LAYC (some (pv_i ρ)) LAYC σ 0 [some (pv_r (b + 12)), some (pv_i x1), some (pv_i x2)] [] LAYC σ
  unfold fX2_groupSheets at h
  refine pr_iload_n dX2_groupSheets_0 rfl ?_
  refine pr_iconst dX2_groupSheets_1 ?_
  refine pr_icmp_ge (tgt := 14) dX2_groupSheets_2 rfl (wr_eq (by decide) (by decide)) (by decide) (fun c_1 => ?_) (fun c_1 => ?_)
  · have h := pm_pos c_1 h
    refine pr_bipush dX2_groupSheets_14 (by decide) ?_
    refine pr_aload_n dX2_groupSheets_16 rfl ?_
    refine pr_getR dX2_groupSheets_17 lk_X2_15 (lw_12 hb) rfl ?_
    refine pr_iload_n dX2_groupSheets_20 rfl ?_
    obtain ⟨g_2, h⟩ := pm_gs h
    refine pr_iald dX2_groupSheets_21 (lw_14 hb) rfl g_2 ?_
    refine pr_isub dX2_groupSheets_22 ?_
    have h := Option.some.inj h
    subst h
    exact pr_iret dX2_groupSheets_23 rfl
  · have h := pm_ng c_1 h
    refine pr_aload_n dX2_groupSheets_5 rfl ?_
    refine pr_getR dX2_groupSheets_6 lk_X2_15 (lw_12 hb) rfl ?_
    refine pr_iload_n dX2_groupSheets_9 rfl ?_
    obtain ⟨g_3, h⟩ := pm_gs h
    refine pr_iald dX2_groupSheets_10 (lw_14 hb) rfl g_3 ?_
    refine pr_goto (tgt := 23) dX2_groupSheets_11 (by decide) ?_
    have h := Option.some.inj h
    subst h
    exact pr_iret dX2_groupSheets_23 rfl
def fX2_groupFirst (b : Nat) (x1 : Int) (x2 : Int) (σ : pm_M) : Option (Int) :=
  if 2 ≤ (wr x2) then (pm_g (0 ≤ (wr x1) ∧ (wr x1) < 80) (some (((2 * (σ (b + 14) (Int.toNat (wr x1)))) + x2) - 2))) else (some x2)
set_option maxHeartbeats 4000000 in
set_option maxRecDepth 100000 in
theorem tmX2_groupFirst {b : Nat} (hb : b = 15 ∨ b = 48) {x1 : Int} {x2 : Int} {σ : pm_M} {ρ : Int} (h : fX2_groupFirst b x1 x2 σ = some ρ) : pm_C mX2_groupFirst 0 0 [pv_r (b + 12), pv_i x1, pv_i x2] LAYC σ (some (pv_i ρ)) LAYC σ := by
  refine pm_C.of (by decide) rfl (Nat.le_of_ble_eq_true rfl) ?_
  show pm_J mX2_groupFirst 0 0 LAYC (some (pv_i ρ)) LAYC σ 0 [some (pv_r (b + 12)), some (pv_i x1), some (pv_i x2)] [] LAYC σ
  unfold fX2_groupFirst at h
  refine pr_iload_n dX2_groupFirst_0 rfl ?_
  refine pr_iconst dX2_groupFirst_1 ?_
  refine pr_icmp_ge (tgt := 9) dX2_groupFirst_2 rfl (wr_eq (by decide) (by decide)) (by decide) (fun c_1 => ?_) (fun c_1 => ?_)
  · have h := pm_pos c_1 h
    refine pr_iconst dX2_groupFirst_9 ?_
    refine pr_aload_n dX2_groupFirst_10 rfl ?_
    refine pr_getR dX2_groupFirst_11 lk_X2_15 (lw_12 hb) rfl ?_
    refine pr_iload_n dX2_groupFirst_14 rfl ?_
    obtain ⟨g_2, h⟩ := pm_gs h
    refine pr_iald dX2_groupFirst_15 (lw_14 hb) rfl g_2 ?_
    refine pr_imul dX2_groupFirst_16 ?_
    refine pr_iload_n dX2_groupFirst_17 rfl ?_
    refine pr_iadd dX2_groupFirst_18 ?_
    refine pr_iconst dX2_groupFirst_19 ?_
    refine pr_isub dX2_groupFirst_20 ?_
    have h := Option.some.inj h
    subst h
    exact pr_iret dX2_groupFirst_21 rfl
  · have h := pm_ng c_1 h
    refine pr_iload_n dX2_groupFirst_5 rfl ?_
    refine pr_goto (tgt := 21) dX2_groupFirst_6 (by decide) ?_
    have h := Option.some.inj h
    subst h
    exact pr_iret dX2_groupFirst_21 rfl
