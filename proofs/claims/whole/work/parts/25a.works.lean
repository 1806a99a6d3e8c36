def fX10_become (σ : pm_M) : Option (pm_M) :=
  (fX11_copyRow 16 9 49 9 σ).bind fun q1 => (fX1_copyFrom q1).bind fun q3 => (fX0_copyFrom q3).bind fun q5 => (fX3_copyFrom q5).bind fun q7 => (fX6_copyFrom q7).bind fun q9 => (fX8_copyFrom q9).bind fun q11 => some (pm_up q11 48 7 (q11 15 7))
set_option maxHeartbeats 4000000 in
set_option maxRecDepth 100000 in
theorem tmX10_become {σ : pm_M} {ρ : pm_M} (h : fX10_become σ = some ρ) : pm_C mX10_become 3 102 [pv_r 48, pv_r 15] LAYC σ none LAYC ρ := by
  refine pm_C.of (by decide) rfl (Nat.le_of_ble_eq_true rfl) ?_
  show pm_J mX10_become 3 102 LAYC none LAYC ρ 0 [some (pv_r 48), some (pv_r 15)] [] LAYC σ
  unfold fX10_become at h
  refine pr_aload_n dX10_become_0 rfl ?_
  refine pr_getR dX10_become_1 lk_X10_9 lc_15 rfl ?_
  refine pr_aload_n dX10_become_4 rfl ?_
  refine pr_getR dX10_become_5 lk_X10_9 lc_48 rfl ?_
  obtain ⟨q1, e2, h⟩ := pm_bs h
  refine pr_callSN (av := [pv_r 16, pv_r 49]) (S := []) dX10_become_8 mk_X10_58 rfl rfl (Nat.le_of_ble_eq_true rfl) (by decide) (by decide) (Or.inl rfl) (tmX11_copyRow lc_16 lc_49 e2) ?_
  refine pr_aload_n dX10_become_11 rfl ?_
  refine pr_getR dX10_become_12 lk_X10_54 lc_48 rfl ?_
  refine pr_aload_n dX10_become_15 rfl ?_
  refine pr_getR dX10_become_16 lk_X10_54 lc_15 rfl ?_
  obtain ⟨q3, e4, h⟩ := pm_bs h
  refine pr_callV (As := [pv_r 43]) (S := []) (t := 76) dX10_become_19 mk_X10_62 lc_76 (ci := 1) (q := (RX1, TX1, 7)) rfl rfl rfl rfl (Nat.le_of_ble_eq_true rfl) (by decide) (by decide) (Or.inl rfl) (tmX1_copyFrom e4) ?_
  refine pr_aload_n dX10_become_22 rfl ?_
  refine pr_getR dX10_become_23 lk_X10_18 lc_48 rfl ?_
  refine pr_aload_n dX10_become_26 rfl ?_
  refine pr_getR dX10_become_27 lk_X10_18 lc_15 rfl ?_
  obtain ⟨q5, e6, h⟩ := pm_bs h
  refine pr_callV (As := [pv_r 17]) (S := []) (t := 50) dX10_become_30 mk_X10_66 lc_50 (ci := 0) (q := (RX0, TX0, 4)) rfl rfl rfl rfl (Nat.le_of_ble_eq_true rfl) (by decide) (by decide) (Or.inl rfl) (tmX0_copyFrom e6) ?_
  refine pr_aload_n dX10_become_33 rfl ?_
  refine pr_getR dX10_become_34 lk_X10_25 lc_48 rfl ?_
  refine pr_aload_n dX10_become_37 rfl ?_
  refine pr_getR dX10_become_38 lk_X10_25 lc_15 rfl ?_
  obtain ⟨q7, e8, h⟩ := pm_bs h
  refine pr_callV (As := [pv_r 22]) (S := []) (t := 55) dX10_become_41 mk_X10_69 lc_55 (ci := 3) (q := (RX3, TX3, 4)) rfl rfl rfl rfl (Nat.le_of_ble_eq_true rfl) (by decide) (by decide) (Or.inl rfl) (tmX3_copyFrom e8) ?_
  refine pr_aload_n dX10_become_44 rfl ?_
  refine pr_getR dX10_become_45 lk_X10_32 lc_48 rfl ?_
  refine pr_aload_n dX10_become_48 rfl ?_
  refine pr_getR dX10_become_49 lk_X10_32 lc_15 rfl ?_
  obtain ⟨q9, e10, h⟩ := pm_bs h
  refine pr_callV (As := [pv_r 26]) (S := []) (t := 59) dX10_become_52 mk_X10_72 lc_59 (ci := 6) (q := (RX6, TX6, 12)) rfl rfl rfl rfl (Nat.le_of_ble_eq_true rfl) (by decide) (by decide) (Or.inl rfl) (tmX6_copyFrom e10) ?_
  refine pr_aload_n dX10_become_55 rfl ?_
  refine pr_getR dX10_become_56 lk_X10_41 lc_48 rfl ?_
  refine pr_aload_n dX10_become_59 rfl ?_
  refine pr_getR dX10_become_60 lk_X10_41 lc_15 rfl ?_
  obtain ⟨q11, e12, h⟩ := pm_bs h
  refine pr_callV (As := [pv_r 37]) (S := []) (t := 70) dX10_become_63 mk_X10_75 lc_70 (ci := 8) (q := (RX8, TX8, 9)) rfl rfl rfl rfl (Nat.le_of_ble_eq_true rfl) (by decide) (by decide) (Or.inl rfl) (tmX8_copyFrom e12) ?_
  refine pr_aload_n dX10_become_66 rfl ?_
  refine pr_aload_n dX10_become_67 rfl ?_
  refine pr_getI dX10_become_68 lk_X10_78 lc_15 rfl ?_
  refine pr_putI dX10_become_71 lp_X10_78 lc_48 rfl ?_
  have h := Option.some.inj h
  subst h
  exact pr_vret dX10_become_74 rfl
def fX10_today (b : Nat) (σ : pm_M) : Option (Int) :=
  some (Int.tdiv (wr (σ b 7)) 24)
set_option maxHeartbeats 4000000 in
set_option maxRecDepth 100000 in
theorem tmX10_today {b : Nat} (hb : b = 15 ∨ b = 48) {σ : pm_M} {ρ : Int} (h : fX10_today b σ = some ρ) : pm_C mX10_today 0 0 [pv_r b] LAYC σ (some (pv_i ρ)) LAYC σ := by
  refine pm_C.of (by decide) rfl (Nat.le_of_ble_eq_true rfl) ?_
  show pm_J mX10_today 0 0 LAYC (some (pv_i ρ)) LAYC σ 0 [some (pv_r b)] [] LAYC σ
  unfold fX10_today at h
  refine pr_aload_n dX10_today_0 rfl ?_
  refine pr_getI dX10_today_1 lk_X10_78 (lw_0 hb) rfl ?_
  refine pr_bipush dX10_today_4 (by decide) ?_
  refine pr_idiv dX10_today_6 rfl (wr_eq (by decide) (by decide)) (by decide) ?_
  have h := Option.some.inj h
  subst h
  exact pr_iret dX10_today_7 rfl
def bdX10_pulpOfAll_4 (b : Nat) (σ : pm_M) (z1 : Int) (z2 : Int) : Option ((Int × Int) ⊕ (Int × Int)) :=
  if 9 ≤ (wr z2) then (some (.inl (z1, z2))) else (pm_g (0 ≤ (wr z2) ∧ (wr z2) < 9) (some (.inr ((z1 + (σ (b + 1) (Int.toNat (wr z2)))), (z2 + 1)))))
set_option maxHeartbeats 4000000 in
set_option maxRecDepth 100000 in
theorem tbX10_pulpOfAll_4 {lay0 lay' : List pm_S} {r : Option pm_V} {σ' : pm_M} {b : Nat} (hb : b = 15 ∨ b = 48) (σ : pm_M) : ∀ (a : Int × Int) (e : (Int × Int) ⊕ (Int × Int)), (fun a => bdX10_pulpOfAll_4 b σ a.1 a.2) a = some e → (∀ a, e = .inr a → (fun a => pm_J mX10_pulpOfAll 0 0 lay0 r lay' σ' 4 [some (pv_r b), some (pv_i a.1), some (pv_i a.2)] [] LAYC σ) a) → (∀ a, e = .inl a → (fun a => pm_J mX10_pulpOfAll 0 0 lay0 r lay' σ' 25 [none, some (pv_i a.1), none] [] LAYC σ) a) → (fun a => pm_J mX10_pulpOfAll 0 0 lay0 r lay' σ' 4 [some (pv_r b), some (pv_i a.1), some (pv_i a.2)] [] LAYC σ) a := by
  intro a e h hc hx
  obtain ⟨z1, z2⟩ := a
  have h : bdX10_pulpOfAll_4 b σ z1 z2 = some e := h
  unfold bdX10_pulpOfAll_4 at h
  show pm_J mX10_pulpOfAll 0 0 lay0 r lay' σ' 4 [some (pv_r b), some (pv_i z1), some (pv_i z2)] [] LAYC σ
  refine pr_iload_n dX10_pulpOfAll_4 rfl ?_
  refine pr_bipush dX10_pulpOfAll_5 (by decide) ?_
  refine pr_icmp_ge (tgt := 25) dX10_pulpOfAll_7 rfl (wr_eq (by decide) (by decide)) (by decide) (fun c_1 => ?_) (fun c_1 => ?_)
  · have h := pm_pos c_1 h
    refine pr_weak (L2 := [none, some (pv_i z1), none]) ⟨Or.inl rfl, Or.inr rfl, Or.inl rfl, trivial⟩ ?_
    exact hx (z1, z2) (Option.some.inj h).symm
  · have h := pm_ng c_1 h
    refine pr_iload_n dX10_pulpOfAll_10 rfl ?_
    refine pr_aload_n dX10_pulpOfAll_11 rfl ?_
    refine pr_getR dX10_pulpOfAll_12 lk_X10_9 (lw_0 hb) rfl ?_
    refine pr_iload_n dX10_pulpOfAll_15 rfl ?_
    obtain ⟨g_2, h⟩ := pm_gs h
    refine pr_iald dX10_pulpOfAll_16 (lw_1 hb) rfl g_2 ?_
    refine pr_iadd dX10_pulpOfAll_17 ?_
    refine pr_istore_n dX10_pulpOfAll_18 (by decide) rfl ?_
    refine pr_iinc dX10_pulpOfAll_19 rfl (by decide) rfl ?_
    refine pr_goto (tgt := 4) dX10_pulpOfAll_22 (by decide) ?_
    refine pr_weak (L2 := [some (pv_r b), some (pv_i (z1 + (σ (b + 1) (Int.toNat (wr z2))))), some (pv_i (z2 + 1))]) ⟨Or.inr rfl, Or.inr rfl, Or.inr rfl, trivial⟩ ?_
    exact hc ((z1 + (σ (b + 1) (Int.toNat (wr z2)))), (z2 + 1)) (Option.some.inj h).symm
def fX10_pulpOfAll (b : Nat) (σ : pm_M) : Option (Int) :=
  (pm_it (fun a => bdX10_pulpOfAll_4 b σ a.1 a.2) pm_fuel (0, 0)).bind fun v3 => some v3.1
set_option maxHeartbeats 4000000 in
set_option maxRecDepth 100000 in
theorem tmX10_pulpOfAll {b : Nat} (hb : b = 15 ∨ b = 48) {σ : pm_M} {ρ : Int} (h : fX10_pulpOfAll b σ = some ρ) : pm_C mX10_pulpOfAll 0 0 [pv_r b] LAYC σ (some (pv_i ρ)) LAYC σ := by
  refine pm_C.of (by decide) rfl (Nat.le_of_ble_eq_true rfl) ?_
  show pm_J mX10_pulpOfAll 0 0 LAYC (some (pv_i ρ)) LAYC σ 0 [some (pv_r b), none, none] [] LAYC σ
  unfold fX10_pulpOfAll at h
  refine pr_iconst dX10_pulpOfAll_0 ?_
  refine pr_istore_n dX10_pulpOfAll_1 (by decide) rfl ?_
  refine pr_iconst dX10_pulpOfAll_2 ?_
  refine pr_istore_n dX10_pulpOfAll_3 (by decide) rfl ?_
  obtain ⟨v3, e4, h⟩ := pm_bs h
  refine pr_weak (L2 := [some (pv_r b), some (pv_i 0), some (pv_i 0)]) ⟨Or.inr rfl, Or.inr rfl, Or.inr rfl, trivial⟩ ?_
  refine pm_it_J (α := Int × Int) (β := Int × Int) (f := fun a => bdX10_pulpOfAll_4 b σ a.1 a.2) (P := fun a => pm_J mX10_pulpOfAll 0 0 LAYC (some (pv_i ρ)) LAYC σ 4 [some (pv_r b), some (pv_i a.1), some (pv_i a.2)] [] LAYC σ) (Rx := fun a => pm_J mX10_pulpOfAll 0 0 LAYC (some (pv_i ρ)) LAYC σ 25 [none, some (pv_i a.1), none] [] LAYC σ) (tbX10_pulpOfAll_4 hb σ) pm_fuel (0, 0) v3 e4 ?_
  show pm_J mX10_pulpOfAll 0 0 LAYC (some (pv_i ρ)) LAYC σ 25 [none, some (pv_i v3.1), none] [] LAYC σ
  refine pr_iload_n dX10_pulpOfAll_25 rfl ?_
  have h := Option.some.inj h
  subst h
  exact pr_iret dX10_pulpOfAll_26 rfl
def jnX10_passOne_55 (b : Nat) (w1 : Int) (w2 : Int) (u0 : Int) (σ : pm_M) : Option (pm_M) :=
  (fX0_work b u0 σ).bind fun q9 => (fX8_work b q9.1 (q9.2 b 7) q9.2).bind fun q11 => (fX6_hangWet b (q11 b 7) q11).bind fun q13 => if (wr w2) = 0 then ((fX9_on w1 1 q13).bind fun q16 => (fX6_dryHanging b q16 (q13 b 7) q13).bind fun q18 => (fX1_spoilOld b (q18 b 7) q18).bind fun q20 => some q20) else ((fX6_dryHanging b 0 (q13 b 7) q13).bind fun q22 => (fX1_spoilOld b (q22 b 7) q22).bind fun q24 => some q24)
set_option maxHeartbeats 4000000 in
set_option maxRecDepth 100000 in
theorem tjX10_passOne_55 {lay0 : List pm_S} {b : Nat} (hb : b = 15 ∨ b = 48) {w1 : Int} {w2 : Int} {u0 : Int} {σ : pm_M} {ρ : pm_M} (h : jnX10_passOne_55 b w1 w2 u0 σ = some ρ) : pm_J mX10_passOne 5 156 lay0 none LAYC ρ 55 [some (pv_r b), some (pv_i w1), some (pv_i w2), none] [pv_i u0, pv_r (b + 2)] LAYC σ := by
  unfold jnX10_passOne_55 at h
  refine pr_aload_n dX10_passOne_55 rfl ?_
  refine pr_getR dX10_passOne_56 lk_X10_9 (lw_0 hb) rfl ?_
  obtain ⟨q9, e10, h⟩ := pm_bs h
  refine pr_callV (As := [pv_i u0, pv_r (b + 1)]) (S := []) (t := (b + 2)) dX10_passOne_59 mk_X10_95 (lw_2 hb) (ci := 0) (q := (RX0, TX0, 4)) rfl rfl rfl rfl (Nat.le_of_ble_eq_true rfl) (by decide) (by decide) (Or.inl rfl) (tmX0_work hb e10) ?_
  refine pr_istore_n dX10_passOne_62 (by decide) rfl ?_
  refine pr_aload_n dX10_passOne_63 rfl ?_
  refine pr_getR dX10_passOne_64 lk_X10_41 (lw_0 hb) rfl ?_
  refine pr_iload_n dX10_passOne_67 rfl ?_
  refine pr_aload_n dX10_passOne_68 rfl ?_
  refine pr_getI dX10_passOne_69 lk_X10_78 (lw_0 hb) rfl ?_
  obtain ⟨q11, e12, h⟩ := pm_bs h
  refine pr_callV (As := [pv_i q9.1, pv_i (q9.2 b 7)]) (S := []) (t := (b + 22)) dX10_passOne_72 mk_X10_99 (lw_22 hb) (ci := 8) (q := (RX8, TX8, 9)) rfl rfl rfl rfl (Nat.le_of_ble_eq_true rfl) (by decide) (by decide) (Or.inl rfl) (tmX8_work hb e12) ?_
  refine pr_aload_n dX10_passOne_75 rfl ?_
  refine pr_getR dX10_passOne_76 lk_X10_32 (lw_0 hb) rfl ?_
  refine pr_aload_n dX10_passOne_79 rfl ?_
  refine pr_getI dX10_passOne_80 lk_X10_78 (lw_0 hb) rfl ?_
  obtain ⟨q13, e14, h⟩ := pm_bs h
  refine pr_callV (As := [pv_i (q11 b 7)]) (S := []) (t := (b + 11)) dX10_passOne_83 mk_X10_102 (lw_11 hb) (ci := 6) (q := (RX6, TX6, 12)) rfl rfl rfl rfl (Nat.le_of_ble_eq_true rfl) (by decide) (by decide) (Or.inl rfl) (tmX6_hangWet hb e14) ?_
  refine pr_aload_n dX10_passOne_86 rfl ?_
  refine pr_getR dX10_passOne_87 lk_X10_32 (lw_0 hb) rfl ?_
  refine pr_iload_n dX10_passOne_90 rfl ?_
  refine pr_if_eq (tgt := 98) dX10_passOne_91 rfl (by decide) (fun c_15 => ?_) (fun c_15 => ?_)
  · have h := pm_pos c_15 h
    refine pr_aload_n dX10_passOne_98 rfl ?_
    refine pr_getR dX10_passOne_99 lk_X10_45 (lw_0 hb) rfl ?_
    refine pr_iload_n dX10_passOne_102 rfl ?_
    refine pr_iconst dX10_passOne_103 ?_
    obtain ⟨q16, e17, h⟩ := pm_bs h
    refine pr_callV (As := [pv_i w1, pv_i 1]) (S := [pv_r (b + 11)]) (t := 1) dX10_passOne_104 mk_X10_89 lc_1 (ci := 9) (q := (RX9, TX9, 2)) rfl rfl rfl rfl (Nat.le_of_ble_eq_true rfl) (by decide) (by decide) (Or.inl rfl) (tmX9_on e17) ?_
    refine pr_aload_n dX10_passOne_107 rfl ?_
    refine pr_getI dX10_passOne_108 lk_X10_78 (lw_0 hb) rfl ?_
    obtain ⟨q18, e19, h⟩ := pm_bs h
    refine pr_callV (As := [pv_i q16, pv_i (q13 b 7)]) (S := []) (t := (b + 11)) dX10_passOne_111 mk_X10_106 (lw_11 hb) (ci := 6) (q := (RX6, TX6, 12)) rfl rfl rfl rfl (Nat.le_of_ble_eq_true rfl) (by decide) (by decide) (Or.inl rfl) (tmX6_dryHanging hb e19) ?_
    refine pr_aload_n dX10_passOne_114 rfl ?_
    refine pr_getR dX10_passOne_115 lk_X10_54 (lw_0 hb) rfl ?_
    refine pr_aload_n dX10_passOne_118 rfl ?_
    refine pr_getI dX10_passOne_119 lk_X10_78 (lw_0 hb) rfl ?_
    obtain ⟨q20, e21, h⟩ := pm_bs h
    refine pr_callV (As := [pv_i (q18 b 7)]) (S := []) (t := (b + 28)) dX10_passOne_122 mk_X10_109 (lw_28 hb) (ci := 1) (q := (RX1, TX1, 7)) rfl rfl rfl rfl (Nat.le_of_ble_eq_true rfl) (by decide) (by decide) (Or.inl rfl) (tmX1_spoilOld hb e21) ?_
    have h := Option.some.inj h
    subst h
    exact pr_vret dX10_passOne_125 rfl
  · have h := pm_ng c_15 h
    refine pr_iconst dX10_passOne_94 ?_
    refine pr_goto (tgt := 107) dX10_passOne_95 (by decide) ?_
    refine pr_aload_n dX10_passOne_107 rfl ?_
    refine pr_getI dX10_passOne_108 lk_X10_78 (lw_0 hb) rfl ?_
    obtain ⟨q22, e23, h⟩ := pm_bs h
    refine pr_callV (As := [pv_i 0, pv_i (q13 b 7)]) (S := []) (t := (b + 11)) dX10_passOne_111 mk_X10_106 (lw_11 hb) (ci := 6) (q := (RX6, TX6, 12)) rfl rfl rfl rfl (Nat.le_of_ble_eq_true rfl) (by decide) (by decide) (Or.inl rfl) (tmX6_dryHanging hb e23) ?_
    refine pr_aload_n dX10_passOne_114 rfl ?_
    refine pr_getR dX10_passOne_115 lk_X10_54 (lw_0 hb) rfl ?_
    refine pr_aload_n dX10_passOne_118 rfl ?_
    refine pr_getI dX10_passOne_119 lk_X10_78 (lw_0 hb) rfl ?_
    obtain ⟨q24, e25, h⟩ := pm_bs h
    refine pr_callV (As := [pv_i (q22 b 7)]) (S := []) (t := (b + 28)) dX10_passOne_122 mk_X10_109 (lw_28 hb) (ci := 1) (q := (RX1, TX1, 7)) rfl rfl rfl rfl (Nat.le_of_ble_eq_true rfl) (by decide) (by decide) (Or.inl rfl) (tmX1_spoilOld hb e25) ?_
    have h := Option.some.inj h
    subst h
    exact pr_vret dX10_passOne_125 rfl
def jnX10_passOne_23 (b : Nat) (w1 : Int) (u0 : Int) (σ : pm_M) : Option (pm_M) :=
  if (wr u0) = 0 then ((fX9_on w1 0 (pm_up σ b 7 ((σ b 7) + 1))).bind fun q7 => jnX10_passOne_55 b w1 u0 q7 (pm_up σ b 7 ((σ b 7) + 1))) else (jnX10_passOne_55 b w1 u0 0 (pm_up σ b 7 ((σ b 7) + 1)))
set_option maxHeartbeats 4000000 in
set_option maxRecDepth 100000 in
theorem tjX10_passOne_23 {lay0 : List pm_S} {b : Nat} (hb : b = 15 ∨ b = 48) {w1 : Int} {u0 : Int} {σ : pm_M} {ρ : pm_M} (h : jnX10_passOne_23 b w1 u0 σ = some ρ) : pm_J mX10_passOne 5 156 lay0 none LAYC ρ 23 [some (pv_r b), some (pv_i w1), none, none] [pv_i u0] LAYC σ := by
  unfold jnX10_passOne_23 at h
  refine pr_istore_n dX10_passOne_23 (by decide) rfl ?_
  refine pr_aload_n dX10_passOne_24 rfl ?_
  refine pr_dup dX10_passOne_25 rfl ?_
  refine pr_getI dX10_passOne_26 lk_X10_78 (lw_0 hb) rfl ?_
  refine pr_iconst dX10_passOne_29 ?_
  refine pr_iadd dX10_passOne_30 ?_
  refine pr_putI dX10_passOne_31 lp_X10_78 (lw_0 hb) rfl ?_
  refine pr_aload_n dX10_passOne_34 rfl ?_
  refine pr_getR dX10_passOne_35 lk_X10_18 (lw_0 hb) rfl ?_
  refine pr_iload_n dX10_passOne_38 rfl ?_
  refine pr_if_eq (tgt := 46) dX10_passOne_39 rfl (by decide) (fun c_6 => ?_) (fun c_6 => ?_)
  · have h := pm_pos c_6 h
    refine pr_aload_n dX10_passOne_46 rfl ?_
    refine pr_getR dX10_passOne_47 lk_X10_45 (lw_0 hb) rfl ?_
    refine pr_iload_n dX10_passOne_50 rfl ?_
    refine pr_iconst dX10_passOne_51 ?_
    obtain ⟨q7, e8, h⟩ := pm_bs h
    refine pr_callV (As := [pv_i w1, pv_i 0]) (S := [pv_r (b + 2)]) (t := 1) dX10_passOne_52 mk_X10_89 lc_1 (ci := 9) (q := (RX9, TX9, 2)) rfl rfl rfl rfl (Nat.le_of_ble_eq_true rfl) (by decide) (by decide) (Or.inl rfl) (tmX9_on e8) ?_
    refine pr_weak (L2 := [some (pv_r b), some (pv_i w1), some (pv_i u0), none]) ⟨Or.inr rfl, Or.inr rfl, Or.inr rfl, Or.inl rfl, trivial⟩ ?_
    exact tjX10_passOne_55 hb h
  · have h := pm_ng c_6 h
    refine pr_iconst dX10_passOne_42 ?_
    refine pr_goto (tgt := 55) dX10_passOne_43 (by decide) ?_
    refine pr_weak (L2 := [some (pv_r b), some (pv_i w1), some (pv_i u0), none]) ⟨Or.inr rfl, Or.inr rfl, Or.inr rfl, Or.inl rfl, trivial⟩ ?_
    exact tjX10_passOne_55 hb h
def fX10_passOne (b : Nat) (σ : pm_M) : Option (pm_M) :=
  (fX10_today b σ).bind fun q1 => (fX9_on q1 2 σ).bind fun q3 => if (wr q3) = 1 then (jnX10_passOne_23 b q1 1 σ) else (jnX10_passOne_23 b q1 0 σ)
set_option maxHeartbeats 4000000 in
set_option maxRecDepth 100000 in
theorem tmX10_passOne {b : Nat} (hb : b = 15 ∨ b = 48) {σ : pm_M} {ρ : pm_M} (h : fX10_passOne b σ = some ρ) : pm_C mX10_passOne 5 156 [pv_r b] LAYC σ none LAYC ρ := by
  refine pm_C.of (by decide) rfl (Nat.le_of_ble_eq_true rfl) ?_
  show pm_J mX10_passOne 5 156 LAYC none LAYC ρ 0 [some (pv_r b), none, none, none] [] LAYC σ
  unfold fX10_passOne at h
  refine pr_aload_n dX10_passOne_0 rfl ?_
  obtain ⟨q1, e2, h⟩ := pm_bs h
  refine pr_callV (As := []) (S := []) (t := b) dX10_passOne_1 mk_X10_85 (lw_0 hb) (ci := 10) (q := (RX10, TX10, 8)) rfl rfl rfl rfl (Nat.le_of_ble_eq_true rfl) (by decide) (by decide) (Or.inl rfl) (tmX10_today hb e2) ?_
  refine pr_istore_n dX10_passOne_4 (by decide) rfl ?_
  refine pr_aload_n dX10_passOne_5 rfl ?_
  refine pr_getR dX10_passOne_6 lk_X10_45 (lw_0 hb) rfl ?_
  refine pr_iload_n dX10_passOne_9 rfl ?_
  refine pr_iconst dX10_passOne_10 ?_
  obtain ⟨q3, e4, h⟩ := pm_bs h
  refine pr_callV (As := [pv_i q1, pv_i 2]) (S := []) (t := 1) dX10_passOne_11 mk_X10_89 lc_1 (ci := 9) (q := (RX9, TX9, 2)) rfl rfl rfl rfl (Nat.le_of_ble_eq_true rfl) (by decide) (by decide) (Or.inl rfl) (tmX9_on e4) ?_
  refine pr_iconst dX10_passOne_14 ?_
  refine pr_icmp_ne (tgt := 22) dX10_passOne_15 rfl (wr_eq (by decide) (by decide)) (by decide) (fun c_5 => ?_) (fun c_5 => ?_)
  · have h := pm_ng c_5 h
    refine pr_iconst dX10_passOne_22 ?_
    refine pr_weak (L2 := [some (pv_r b), some (pv_i q1), none, none]) ⟨Or.inr rfl, Or.inr rfl, Or.inl rfl, Or.inl rfl, trivial⟩ ?_
    exact tjX10_passOne_23 hb h
  · have h := pm_pos c_5 h
    refine pr_iconst dX10_passOne_18 ?_
    refine pr_goto (tgt := 23) dX10_passOne_19 (by decide) ?_
    refine pr_weak (L2 := [some (pv_r b), some (pv_i q1), none, none]) ⟨Or.inr rfl, Or.inr rfl, Or.inl rfl, Or.inl rfl, trivial⟩ ?_
    exact tjX10_passOne_23 hb h
def bdX10_pass_2 (b : Nat) (y1 : Int) (z2 : Int) (σ : pm_M) : Option ((Int × pm_M) ⊕ (Int × pm_M)) :=
  if (wr y1) ≤ (wr z2) then (some (.inl (z2, σ))) else (if 2400 ≤ (wr (σ b 7)) then (some (.inl (z2, σ))) else ((fX10_passOne b σ).bind fun q3 => some (.inr ((z2 + 1), q3))))
set_option maxHeartbeats 4000000 in
set_option maxRecDepth 100000 in
theorem tbX10_pass_2 {lay0 lay' : List pm_S} {r : Option pm_V} {σ' : pm_M} {b : Nat} (hb : b = 15 ∨ b = 48) (y1 : Int) : ∀ (a : Int × pm_M) (e : (Int × pm_M) ⊕ (Int × pm_M)), (fun a => bdX10_pass_2 b y1 a.1 a.2) a = some e → (∀ a, e = .inr a → (fun a => pm_J mX10_pass 6 179 lay0 r lay' σ' 2 [some (pv_r b), some (pv_i y1), some (pv_i a.1)] [] LAYC a.2) a) → (∀ a, e = .inl a → (fun a => pm_J mX10_pass 6 179 lay0 r lay' σ' 27 [none, none, none] [] LAYC a.2) a) → (fun a => pm_J mX10_pass 6 179 lay0 r lay' σ' 2 [some (pv_r b), some (pv_i y1), some (pv_i a.1)] [] LAYC a.2) a := by
  intro a e h hc hx
  obtain ⟨z2, σ⟩ := a
  have h : bdX10_pass_2 b y1 z2 σ = some e := h
  unfold bdX10_pass_2 at h
  show pm_J mX10_pass 6 179 lay0 r lay' σ' 2 [some (pv_r b), some (pv_i y1), some (pv_i z2)] [] LAYC σ
  refine pr_iload_n dX10_pass_2 rfl ?_
  refine pr_iload_n dX10_pass_3 rfl ?_
  refine pr_icmp_ge (tgt := 27) dX10_pass_4 rfl rfl (by decide) (fun c_1 => ?_) (fun c_1 => ?_)
  · have h := pm_pos c_1 h
    refine pr_weak (L2 := [none, none, none]) ⟨Or.inl rfl, Or.inl rfl, Or.inl rfl, trivial⟩ ?_
    exact hx (z2, σ) (Option.some.inj h).symm
  · have h := pm_ng c_1 h
    refine pr_aload_n dX10_pass_7 rfl ?_
    refine pr_getI dX10_pass_8 lk_X10_78 (lw_0 hb) rfl ?_
    refine pr_sipush dX10_pass_11 (by decide) ?_
    refine pr_icmp_ge (tgt := 27) dX10_pass_14 rfl (wr_eq (by decide) (by decide)) (by decide) (fun c_2 => ?_) (fun c_2 => ?_)
    · have h := pm_pos c_2 h
      refine pr_weak (L2 := [none, none, none]) ⟨Or.inl rfl, Or.inl rfl, Or.inl rfl, trivial⟩ ?_
      exact hx (z2, σ) (Option.some.inj h).symm
    · have h := pm_ng c_2 h
      refine pr_aload_n dX10_pass_17 rfl ?_
      obtain ⟨q3, e4, h⟩ := pm_bs h
      refine pr_callV (As := []) (S := []) (t := b) dX10_pass_18 mk_X10_82 (lw_0 hb) (ci := 10) (q := (RX10, TX10, 8)) rfl rfl rfl rfl (Nat.le_of_ble_eq_true rfl) (by decide) (by decide) (Or.inl rfl) (tmX10_passOne hb e4) ?_
      refine pr_iinc dX10_pass_21 rfl (by decide) rfl ?_
      refine pr_goto (tgt := 2) dX10_pass_24 (by decide) ?_
      refine pr_weak (L2 := [some (pv_r b), some (pv_i y1), some (pv_i (z2 + 1))]) ⟨Or.inr rfl, Or.inr rfl, Or.inr rfl, trivial⟩ ?_
      exact hc ((z2 + 1), q3) (Option.some.inj h).symm
def fX10_pass (b : Nat) (x1 : Int) (σ : pm_M) : Option (pm_M) :=
  (pm_it (fun a => bdX10_pass_2 b x1 a.1 a.2) pm_fuel (0, σ)).bind fun v5 => some v5.2
set_option maxHeartbeats 4000000 in
set_option maxRecDepth 100000 in
theorem tmX10_pass {b : Nat} (hb : b = 15 ∨ b = 48) {x1 : Int} {σ : pm_M} {ρ : pm_M} (h : fX10_pass b x1 σ = some ρ) : pm_C mX10_pass 6 179 [pv_r b, pv_i x1] LAYC σ none LAYC ρ := by
  refine pm_C.of (by decide) rfl (Nat.le_of_ble_eq_true rfl) ?_
  show pm_J mX10_pass 6 179 LAYC none LAYC ρ 0 [some (pv_r b), some (pv_i x1), none] [] LAYC σ
  unfold fX10_pass at h
  refine pr_iconst dX10_pass_0 ?_
  refine pr_istore_n dX10_pass_1 (by decide) rfl ?_
  obtain ⟨v5, e6, h⟩ := pm_bs h
  refine pr_weak (L2 := [some (pv_r b), some (pv_i x1), some (pv_i 0)]) ⟨Or.inr rfl, Or.inr rfl, Or.inr rfl, trivial⟩ ?_
  refine pm_it_J (α := Int × pm_M) (β := Int × pm_M) (f := fun a => bdX10_pass_2 b x1 a.1 a.2) (P := fun a => pm_J mX10_pass 6 179 LAYC none LAYC ρ 2 [some (pv_r b), some (pv_i x1), some (pv_i a.1)] [] LAYC a.2) (Rx := fun a => pm_J mX10_pass 6 179 LAYC none LAYC ρ 27 [none, none, none] [] LAYC a.2) (tbX10_pass_2 hb x1) pm_fuel (0, σ) v5 e6 ?_
  show pm_J mX10_pass 6 179 LAYC none LAYC ρ 27 [none, none, none] [] LAYC v5.2
  have h := Option.some.inj h
  subst h
  exact pr_vret dX10_pass_27 rfl
