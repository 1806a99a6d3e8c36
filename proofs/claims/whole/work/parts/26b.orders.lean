def fX5_isBetter (x1 : Int) (x2 : Int) (σ : pm_M) : Option (Int) :=
  if (wr x1) = (wr (σ 81 9)) then ((fJ6_bitCount_0f7a4 x2).bind fun q2 => (fJ6_bitCount_0f7a4 (σ 81 8)).bind fun q4 => (fJ6_compare_7cf53 q2 q4).bind fun q6 => if (wr q6) = 0 then (if (wr (σ 81 8)) ≤ (wr x2) then (some 0) else (some 1)) else (if 0 ≤ (wr q6) then (some 0) else (some 1))) else (if (wr x1) ≤ (wr (σ 81 9)) then (some 0) else (some 1))
set_option maxHeartbeats 4000000 in
set_option maxRecDepth 100000 in
theorem tmX5_isBetter {x1 : Int} {x2 : Int} {σ : pm_M} {ρ : Int} (h : fX5_isBetter x1 x2 σ = some ρ) : pm_C mX5_isBetter 1 21 [pv_r 81, pv_i x1, pv_i x2] LAYC σ (some (pv_i ρ)) LAYC σ := by
  refine pm_C.of (by decide) rfl (Nat.le_of_ble_eq_true rfl) ?_
  show pm_J mX5_isBetter 1 21 LAYC (some (pv_i ρ)) LAYC σ 0 [some (pv_r 81), some (pv_i x1), some (pv_i x2), none] [] LAYC σ
  unfold fX5_isBetter at h
  refine pr_iload_n dX5_isBetter_0 rfl ?_
  refine pr_aload_n dX5_isBetter_1 rfl ?_
  refine pr_getI dX5_isBetter_2 lk_X5_48 lc_81 rfl ?_
  refine pr_icmp_eq (tgt := 22) dX5_isBetter_5 rfl rfl (by decide) (fun c_1 => ?_) (fun c_1 => ?_)
  · have h := pm_pos c_1 h
    refine pr_iload_n dX5_isBetter_22 rfl ?_
    obtain ⟨q2, e3, h⟩ := pm_bs h
    refine pr_callS (av := [pv_i x2]) (S := []) dX5_isBetter_23 mk_X5_59 rfl rfl (Nat.le_of_ble_eq_true rfl) (by decide) (by decide) (Or.inl rfl) (tmJ6_bitCount_0f7a4 e3) ?_
    refine pr_aload_n dX5_isBetter_26 rfl ?_
    refine pr_getI dX5_isBetter_27 lk_X5_45 lc_81 rfl ?_
    obtain ⟨q4, e5, h⟩ := pm_bs h
    refine pr_callS (av := [pv_i (σ 81 8)]) (S := [pv_i q2]) dX5_isBetter_30 mk_X5_59 rfl rfl (Nat.le_of_ble_eq_true rfl) (by decide) (by decide) (Or.inl rfl) (tmJ6_bitCount_0f7a4 e5) ?_
    obtain ⟨q6, e7, h⟩ := pm_bs h
    refine pr_callS (av := [pv_i q2, pv_i q4]) (S := []) dX5_isBetter_33 mk_X5_65 rfl rfl (Nat.le_of_ble_eq_true rfl) (by decide) (by decide) (Or.inl rfl) (tmJ6_compare_7cf53 e7) ?_
    refine pr_istore_n dX5_isBetter_36 (by decide) rfl ?_
    refine pr_iload_n dX5_isBetter_37 rfl ?_
    refine pr_if_eq (tgt := 53) dX5_isBetter_38 rfl (by decide) (fun c_8 => ?_) (fun c_8 => ?_)
    · have h := pm_pos c_8 h
      refine pr_iload_n dX5_isBetter_53 rfl ?_
      refine pr_aload_n dX5_isBetter_54 rfl ?_
      refine pr_getI dX5_isBetter_55 lk_X5_45 lc_81 rfl ?_
      refine pr_icmp_ge (tgt := 65) dX5_isBetter_58 rfl rfl (by decide) (fun c_9 => ?_) (fun c_9 => ?_)
      · have h := pm_pos c_9 h
        refine pr_iconst dX5_isBetter_65 ?_
        have h := Option.some.inj h
        subst h
        exact pr_zret dX5_isBetter_66 rfl (Or.inl rfl)
      · have h := pm_ng c_9 h
        refine pr_iconst dX5_isBetter_61 ?_
        refine pr_goto (tgt := 66) dX5_isBetter_62 (by decide) ?_
        have h := Option.some.inj h
        subst h
        exact pr_zret dX5_isBetter_66 rfl (Or.inr rfl)
    · have h := pm_ng c_8 h
      refine pr_iload_n dX5_isBetter_41 rfl ?_
      refine pr_if_ge (tgt := 49) dX5_isBetter_42 rfl (by decide) (fun c_10 => ?_) (fun c_10 => ?_)
      · have h := pm_pos c_10 h
        refine pr_iconst dX5_isBetter_49 ?_
        refine pr_goto (tgt := 66) dX5_isBetter_50 (by decide) ?_
        have h := Option.some.inj h
        subst h
        exact pr_zret dX5_isBetter_66 rfl (Or.inl rfl)
      · have h := pm_ng c_10 h
        refine pr_iconst dX5_isBetter_45 ?_
        refine pr_goto (tgt := 66) dX5_isBetter_46 (by decide) ?_
        have h := Option.some.inj h
        subst h
        exact pr_zret dX5_isBetter_66 rfl (Or.inr rfl)
  · have h := pm_ng c_1 h
    refine pr_iload_n dX5_isBetter_8 rfl ?_
    refine pr_aload_n dX5_isBetter_9 rfl ?_
    refine pr_getI dX5_isBetter_10 lk_X5_48 lc_81 rfl ?_
    refine pr_icmp_le (tgt := 20) dX5_isBetter_13 rfl rfl (by decide) (fun c_11 => ?_) (fun c_11 => ?_)
    · have h := pm_pos c_11 h
      refine pr_iconst dX5_isBetter_20 ?_
      have h := Option.some.inj h
      subst h
      exact pr_zret dX5_isBetter_21 rfl (Or.inl rfl)
    · have h := pm_ng c_11 h
      refine pr_iconst dX5_isBetter_16 ?_
      refine pr_goto (tgt := 21) dX5_isBetter_17 (by decide) ?_
      have h := Option.some.inj h
      subst h
      exact pr_zret dX5_isBetter_21 rfl (Or.inr rfl)
def bdX5_weigh_12 (y1 : Int) (y2 : Int) (y3 : Int) (y4 : Int) (σ : pm_M) (z5 : Int) (z6 : Int) (z7 : Int) (z8 : Int) : Option (((Int × Int × Int × Int) ⊕ (Int × Int × Int × Int)) ⊕ (Int × Int × Int × Int)) :=
  if (wr y2) ≤ (wr z8) then (some (.inl (.inr (z5, z6, z7, z8)))) else (if (wr (pm_and (pm_shr y1 z8) 1)) = 0 then (some (.inr (z5, z6, z7, (z8 + 1)))) else (pm_g (0 ≤ (wr z8) ∧ (wr z8) < 12) (pm_g (0 ≤ (wr (σ 88 (Int.toNat (wr z8)))) ∧ (wr (σ 88 (Int.toNat (wr z8)))) < 12) (pm_g (0 ≤ (wr (σ 88 (Int.toNat (wr z8)))) ∧ (wr (σ 88 (Int.toNat (wr z8)))) < 12) (if (wr ((z5 + (σ 84 (Int.toNat (wr (σ 88 (Int.toNat (wr z8))))))) * 480)) ≤ (wr ((((σ 85 (Int.toNat (wr (σ 88 (Int.toNat (wr z8)))))) + 1) - y4) * y3)) then (pm_g (0 ≤ (wr (σ 88 (Int.toNat (wr z8)))) ∧ (wr (σ 88 (Int.toNat (wr z8)))) < 12) (pm_g (0 ≤ (wr (σ 88 (Int.toNat (wr z8)))) ∧ (wr (σ 88 (Int.toNat (wr z8)))) < 12) (some (.inr ((z5 + (σ 84 (Int.toNat (wr (σ 88 (Int.toNat (wr z8))))))), (z6 + ((σ 86 (Int.toNat (wr (σ 88 (Int.toNat (wr z8)))))) * (σ 84 (Int.toNat (wr (σ 88 (Int.toNat (wr z8)))))))), (pm_or z7 (pm_shl 1 (σ 88 (Int.toNat (wr z8))))), (z8 + 1)))))) else (some (.inl (.inl ((z5 + (σ 84 (Int.toNat (wr (σ 88 (Int.toNat (wr z8))))))), z6, z7, z8)))))))))
set_option maxHeartbeats 4000000 in
set_option maxRecDepth 100000 in
theorem tbX5_weigh_12 {lay0 lay' : List pm_S} {r : Option pm_V} {σ' : pm_M} (y1 : Int) (y2 : Int) (y3 : Int) (y4 : Int) (σ : pm_M) : ∀ (a : Int × Int × Int × Int) (e : ((Int × Int × Int × Int) ⊕ (Int × Int × Int × Int)) ⊕ (Int × Int × Int × Int)), (fun a => bdX5_weigh_12 y1 y2 y3 y4 σ a.1 a.2.1 a.2.2.1 a.2.2.2) a = some e → (∀ a, e = .inr a → (fun a => pm_J mX5_weigh 2 44 lay0 r lay' σ' 12 [some (pv_r 81), some (pv_i y1), some (pv_i y2), some (pv_i y3), some (pv_i y4), some (pv_i a.1), some (pv_i a.2.1), some (pv_i a.2.2.1), some (pv_i a.2.2.2), none] [] LAYC σ) a) → (∀ a, e = .inl a → (fun a => match a with | .inl a => pm_J mX5_weigh 2 44 lay0 r lay' σ' 74 [none, none, none, none, none, none, none, none, none, none] [] LAYC σ | .inr a => pm_J mX5_weigh 2 44 lay0 r lay' σ' 110 [some (pv_r 81), none, none, none, none, none, some (pv_i a.2.1), some (pv_i a.2.2.1), none, none] [] LAYC σ) a) → (fun a => pm_J mX5_weigh 2 44 lay0 r lay' σ' 12 [some (pv_r 81), some (pv_i y1), some (pv_i y2), some (pv_i y3), some (pv_i y4), some (pv_i a.1), some (pv_i a.2.1), some (pv_i a.2.2.1), some (pv_i a.2.2.2), none] [] LAYC σ) a := by
  intro a e h hc hx
  obtain ⟨z5, z6, z7, z8⟩ := a
  have h : bdX5_weigh_12 y1 y2 y3 y4 σ z5 z6 z7 z8 = some e := h
  unfold bdX5_weigh_12 at h
  show pm_J mX5_weigh 2 44 lay0 r lay' σ' 12 [some (pv_r 81), some (pv_i y1), some (pv_i y2), some (pv_i y3), some (pv_i y4), some (pv_i z5), some (pv_i z6), some (pv_i z7), some (pv_i z8), none] [] LAYC σ
  refine pr_iload dX5_weigh_12 rfl ?_
  refine pr_iload_n dX5_weigh_14 rfl ?_
  refine pr_icmp_ge (tgt := 110) dX5_weigh_15 rfl rfl (by decide) (fun c_1 => ?_) (fun c_1 => ?_)
  · have h := pm_pos c_1 h
    refine pr_weak (L2 := [some (pv_r 81), none, none, none, none, none, some (pv_i z6), some (pv_i z7), none, none]) ⟨Or.inr rfl, Or.inl rfl, Or.inl rfl, Or.inl rfl, Or.inl rfl, Or.inl rfl, Or.inr rfl, Or.inr rfl, Or.inl rfl, Or.inl rfl, trivial⟩ ?_
    exact hx (.inr (z5, z6, z7, z8)) (Option.some.inj h).symm
  · have h := pm_ng c_1 h
    refine pr_iload_n dX5_weigh_18 rfl ?_
    refine pr_iload dX5_weigh_19 rfl ?_
    refine pr_ishr dX5_weigh_21 ?_
    refine pr_iconst dX5_weigh_22 ?_
    refine pr_iand dX5_weigh_23 ?_
    refine pr_if_ne (tgt := 30) dX5_weigh_24 rfl (by decide) (fun c_2 => ?_) (fun c_2 => ?_)
    · have h := pm_ng c_2 h
      refine pr_aload_n dX5_weigh_30 rfl ?_
      refine pr_getR dX5_weigh_31 lk_X5_30 lc_81 rfl ?_
      refine pr_iload dX5_weigh_34 rfl ?_
      obtain ⟨g_3, h⟩ := pm_gs h
      refine pr_iald dX5_weigh_36 lc_88 rfl g_3 ?_
      refine pr_istore dX5_weigh_37 (by decide) rfl ?_
      refine pr_iload dX5_weigh_39 rfl ?_
      refine pr_aload_n dX5_weigh_41 rfl ?_
      refine pr_getR dX5_weigh_42 lk_X5_18 lc_81 rfl ?_
      refine pr_iload dX5_weigh_45 rfl ?_
      obtain ⟨g_4, h⟩ := pm_gs h
      refine pr_iald dX5_weigh_47 lc_84 rfl g_4 ?_
      refine pr_iadd dX5_weigh_48 ?_
      refine pr_istore dX5_weigh_49 (by decide) rfl ?_
      refine pr_iload dX5_weigh_51 rfl ?_
      refine pr_sipush dX5_weigh_53 (by decide) ?_
      refine pr_imul dX5_weigh_56 ?_
      refine pr_aload_n dX5_weigh_57 rfl ?_
      refine pr_getR dX5_weigh_58 lk_X5_21 lc_81 rfl ?_
      refine pr_iload dX5_weigh_61 rfl ?_
      obtain ⟨g_5, h⟩ := pm_gs h
      refine pr_iald dX5_weigh_63 lc_85 rfl g_5 ?_
      refine pr_iconst dX5_weigh_64 ?_
      refine pr_iadd dX5_weigh_65 ?_
      refine pr_iload dX5_weigh_66 rfl ?_
      refine pr_isub dX5_weigh_68 ?_
      refine pr_iload_n dX5_weigh_69 rfl ?_
      refine pr_imul dX5_weigh_70 ?_
      refine pr_icmp_le (tgt := 75) dX5_weigh_71 rfl rfl (by decide) (fun c_6 => ?_) (fun c_6 => ?_)
      · have h := pm_pos c_6 h
        refine pr_iload dX5_weigh_75 rfl ?_
        refine pr_aload_n dX5_weigh_77 rfl ?_
        refine pr_getR dX5_weigh_78 lk_X5_24 lc_81 rfl ?_
        refine pr_iload dX5_weigh_81 rfl ?_
        obtain ⟨g_7, h⟩ := pm_gs h
        refine pr_iald dX5_weigh_83 lc_86 rfl g_7 ?_
        refine pr_aload_n dX5_weigh_84 rfl ?_
        refine pr_getR dX5_weigh_85 lk_X5_18 lc_81 rfl ?_
        refine pr_iload dX5_weigh_88 rfl ?_
        obtain ⟨g_8, h⟩ := pm_gs h
        refine pr_iald dX5_weigh_90 lc_84 rfl g_8 ?_
        refine pr_imul dX5_weigh_91 ?_
        refine pr_iadd dX5_weigh_92 ?_
        refine pr_istore dX5_weigh_93 (by decide) rfl ?_
        refine pr_iload dX5_weigh_95 rfl ?_
        refine pr_iconst dX5_weigh_97 ?_
        refine pr_iload dX5_weigh_98 rfl ?_
        refine pr_ishl dX5_weigh_100 ?_
        refine pr_ior dX5_weigh_101 ?_
        refine pr_istore dX5_weigh_102 (by decide) rfl ?_
        refine pr_iinc dX5_weigh_104 rfl (by decide) rfl ?_
        refine pr_goto (tgt := 12) dX5_weigh_107 (by decide) ?_
        refine pr_weak (L2 := [some (pv_r 81), some (pv_i y1), some (pv_i y2), some (pv_i y3), some (pv_i y4), some (pv_i (z5 + (σ 84 (Int.toNat (wr (σ 88 (Int.toNat (wr z8)))))))), some (pv_i (z6 + ((σ 86 (Int.toNat (wr (σ 88 (Int.toNat (wr z8)))))) * (σ 84 (Int.toNat (wr (σ 88 (Int.toNat (wr z8))))))))), some (pv_i (pm_or z7 (pm_shl 1 (σ 88 (Int.toNat (wr z8)))))), some (pv_i (z8 + 1)), none]) ⟨Or.inr rfl, Or.inr rfl, Or.inr rfl, Or.inr rfl, Or.inr rfl, Or.inr rfl, Or.inr rfl, Or.inr rfl, Or.inr rfl, Or.inl rfl, trivial⟩ ?_
        exact hc ((z5 + (σ 84 (Int.toNat (wr (σ 88 (Int.toNat (wr z8))))))), (z6 + ((σ 86 (Int.toNat (wr (σ 88 (Int.toNat (wr z8)))))) * (σ 84 (Int.toNat (wr (σ 88 (Int.toNat (wr z8)))))))), (pm_or z7 (pm_shl 1 (σ 88 (Int.toNat (wr z8))))), (z8 + 1)) (Option.some.inj h).symm
      · have h := pm_ng c_6 h
        refine pr_weak (L2 := [none, none, none, none, none, none, none, none, none, none]) ⟨Or.inl rfl, Or.inl rfl, Or.inl rfl, Or.inl rfl, Or.inl rfl, Or.inl rfl, Or.inl rfl, Or.inl rfl, Or.inl rfl, Or.inl rfl, trivial⟩ ?_
        exact hx (.inl ((z5 + (σ 84 (Int.toNat (wr (σ 88 (Int.toNat (wr z8))))))), z6, z7, z8)) (Option.some.inj h).symm
    · have h := pm_pos c_2 h
      refine pr_goto (tgt := 104) dX5_weigh_27 (by decide) ?_
      refine pr_iinc dX5_weigh_104 rfl (by decide) rfl ?_
      refine pr_goto (tgt := 12) dX5_weigh_107 (by decide) ?_
      refine pr_weak (L2 := [some (pv_r 81), some (pv_i y1), some (pv_i y2), some (pv_i y3), some (pv_i y4), some (pv_i z5), some (pv_i z6), some (pv_i z7), some (pv_i (z8 + 1)), none]) ⟨Or.inr rfl, Or.inr rfl, Or.inr rfl, Or.inr rfl, Or.inr rfl, Or.inr rfl, Or.inr rfl, Or.inr rfl, Or.inr rfl, Or.inl rfl, trivial⟩ ?_
      exact hc (z5, z6, z7, (z8 + 1)) (Option.some.inj h).symm
def fX5_weigh (x1 : Int) (x2 : Int) (x3 : Int) (x4 : Int) (σ : pm_M) : Option (pm_M) :=
  (pm_it (fun a => bdX5_weigh_12 x1 x2 x3 x4 σ a.1 a.2.1 a.2.2.1 a.2.2.2) pm_fuel (0, 0, 0, 0)).bind fun v9 => match v9 with | .inl v9 => (some σ) | .inr v9 => ((fX5_isBetter v9.2.1 v9.2.2.1 σ).bind fun q11 => if (wr q11) = 0 then (some σ) else (some (pm_up (pm_up σ 81 9 v9.2.1) 81 8 v9.2.2.1)))
set_option maxHeartbeats 4000000 in
set_option maxRecDepth 100000 in
theorem tmX5_weigh {x1 : Int} {x2 : Int} {x3 : Int} {x4 : Int} {σ : pm_M} {ρ : pm_M} (h : fX5_weigh x1 x2 x3 x4 σ = some ρ) : pm_C mX5_weigh 2 44 [pv_r 81, pv_i x1, pv_i x2, pv_i x3, pv_i x4] LAYC σ none LAYC ρ := by
  refine pm_C.of (by decide) rfl (Nat.le_of_ble_eq_true rfl) ?_
  show pm_J mX5_weigh 2 44 LAYC none LAYC ρ 0 [some (pv_r 81), some (pv_i x1), some (pv_i x2), some (pv_i x3), some (pv_i x4), none, none, none, none, none] [] LAYC σ
  unfold fX5_weigh at h
  refine pr_iconst dX5_weigh_0 ?_
  refine pr_istore dX5_weigh_1 (by decide) rfl ?_
  refine pr_iconst dX5_weigh_3 ?_
  refine pr_istore dX5_weigh_4 (by decide) rfl ?_
  refine pr_iconst dX5_weigh_6 ?_
  refine pr_istore dX5_weigh_7 (by decide) rfl ?_
  refine pr_iconst dX5_weigh_9 ?_
  refine pr_istore dX5_weigh_10 (by decide) rfl ?_
  obtain ⟨v9, e10, h⟩ := pm_bs h
  refine pr_weak (L2 := [some (pv_r 81), some (pv_i x1), some (pv_i x2), some (pv_i x3), some (pv_i x4), some (pv_i 0), some (pv_i 0), some (pv_i 0), some (pv_i 0), none]) ⟨Or.inr rfl, Or.inr rfl, Or.inr rfl, Or.inr rfl, Or.inr rfl, Or.inr rfl, Or.inr rfl, Or.inr rfl, Or.inr rfl, Or.inl rfl, trivial⟩ ?_
  refine pm_it_J (α := Int × Int × Int × Int) (β := (Int × Int × Int × Int) ⊕ (Int × Int × Int × Int)) (f := fun a => bdX5_weigh_12 x1 x2 x3 x4 σ a.1 a.2.1 a.2.2.1 a.2.2.2) (P := fun a => pm_J mX5_weigh 2 44 LAYC none LAYC ρ 12 [some (pv_r 81), some (pv_i x1), some (pv_i x2), some (pv_i x3), some (pv_i x4), some (pv_i a.1), some (pv_i a.2.1), some (pv_i a.2.2.1), some (pv_i a.2.2.2), none] [] LAYC σ) (Rx := fun a => match a with | .inl a => pm_J mX5_weigh 2 44 LAYC none LAYC ρ 74 [none, none, none, none, none, none, none, none, none, none] [] LAYC σ | .inr a => pm_J mX5_weigh 2 44 LAYC none LAYC ρ 110 [some (pv_r 81), none, none, none, none, none, some (pv_i a.2.1), some (pv_i a.2.2.1), none, none] [] LAYC σ) (tbX5_weigh_12 x1 x2 x3 x4 σ) pm_fuel (0, 0, 0, 0) v9 e10 ?_
  cases v9 with
  | inl v9 =>
    show pm_J mX5_weigh 2 44 LAYC none LAYC ρ 74 [none, none, none, none, none, none, none, none, none, none] [] LAYC σ
    have h := Option.some.inj h
    subst h
    exact pr_vret dX5_weigh_74 rfl
  | inr v9 =>
    show pm_J mX5_weigh 2 44 LAYC none LAYC ρ 110 [some (pv_r 81), none, none, none, none, none, some (pv_i v9.2.1), some (pv_i v9.2.2.1), none, none] [] LAYC σ
    refine pr_aload_n dX5_weigh_110 rfl ?_
    refine pr_iload dX5_weigh_111 rfl ?_
    refine pr_iload dX5_weigh_113 rfl ?_
    obtain ⟨q11, e12, h⟩ := pm_bs h
    refine pr_callV (As := [pv_i v9.2.1, pv_i v9.2.2.1]) (S := []) (t := 81) dX5_weigh_115 mk_X5_55 lc_81 (ci := 5) (q := (RX5, TX5, 10)) rfl rfl rfl rfl (Nat.le_of_ble_eq_true rfl) (by decide) (by decide) (Or.inl rfl) (tmX5_isBetter e12) ?_
    refine pr_if_eq (tgt := 133) dX5_weigh_118 rfl (by decide) (fun c_13 => ?_) (fun c_13 => ?_)
    · have h := pm_pos c_13 h
      have h := Option.some.inj h
      subst h
      exact pr_vret dX5_weigh_133 rfl
    · have h := pm_ng c_13 h
      refine pr_aload_n dX5_weigh_121 rfl ?_
      refine pr_iload dX5_weigh_122 rfl ?_
      refine pr_putI dX5_weigh_124 lp_X5_48 lc_81 rfl ?_
      refine pr_aload_n dX5_weigh_127 rfl ?_
      refine pr_iload dX5_weigh_128 rfl ?_
      refine pr_putI dX5_weigh_130 lp_X5_45 lc_81 rfl ?_
      have h := Option.some.inj h
      subst h
      exact pr_vret dX5_weigh_133 rfl
def bdX5_plan_18 (y1 : Int) (y2 : Int) (y3 : Int) (z4 : Int) (σ : pm_M) : Option ((Int × pm_M) ⊕ (Int × pm_M)) :=
  if (wr (pm_shl 1 y3)) ≤ (wr z4) then (some (.inl (z4, σ))) else ((fX5_weigh z4 y3 y1 y2 σ).bind fun q4 => some (.inr ((z4 + 1), q4)))
set_option maxHeartbeats 4000000 in
set_option maxRecDepth 100000 in
theorem tbX5_plan_18 {lay0 lay' : List pm_S} {r : Option pm_V} {σ' : pm_M} (y1 : Int) (y2 : Int) (y3 : Int) : ∀ (a : Int × pm_M) (e : (Int × pm_M) ⊕ (Int × pm_M)), (fun a => bdX5_plan_18 y1 y2 y3 a.1 a.2) a = some e → (∀ a, e = .inr a → (fun a => pm_J mX5_plan 3 73 lay0 r lay' σ' 18 [some (pv_r 81), some (pv_i y1), some (pv_i y2), some (pv_i y3), some (pv_i a.1)] [] LAYC a.2) a) → (∀ a, e = .inl a → (fun a => pm_J mX5_plan 3 73 lay0 r lay' σ' 41 [none, none, none, none, none] [] LAYC a.2) a) → (fun a => pm_J mX5_plan 3 73 lay0 r lay' σ' 18 [some (pv_r 81), some (pv_i y1), some (pv_i y2), some (pv_i y3), some (pv_i a.1)] [] LAYC a.2) a := by
  intro a e h hc hx
  obtain ⟨z4, σ⟩ := a
  have h : bdX5_plan_18 y1 y2 y3 z4 σ = some e := h
  unfold bdX5_plan_18 at h
  show pm_J mX5_plan 3 73 lay0 r lay' σ' 18 [some (pv_r 81), some (pv_i y1), some (pv_i y2), some (pv_i y3), some (pv_i z4)] [] LAYC σ
  refine pr_iload dX5_plan_18 rfl ?_
  refine pr_iconst dX5_plan_20 ?_
  refine pr_iload_n dX5_plan_21 rfl ?_
  refine pr_ishl dX5_plan_22 ?_
  refine pr_icmp_ge (tgt := 41) dX5_plan_23 rfl rfl (by decide) (fun c_3 => ?_) (fun c_3 => ?_)
  · have h := pm_pos c_3 h
    refine pr_weak (L2 := [none, none, none, none, none]) ⟨Or.inl rfl, Or.inl rfl, Or.inl rfl, Or.inl rfl, Or.inl rfl, trivial⟩ ?_
    exact hx (z4, σ) (Option.some.inj h).symm
  · have h := pm_ng c_3 h
    refine pr_aload_n dX5_plan_26 rfl ?_
    refine pr_iload dX5_plan_27 rfl ?_
    refine pr_iload_n dX5_plan_29 rfl ?_
    refine pr_iload_n dX5_plan_30 rfl ?_
    refine pr_iload_n dX5_plan_31 rfl ?_
    obtain ⟨q4, e5, h⟩ := pm_bs h
    refine pr_callV (As := [pv_i z4, pv_i y3, pv_i y1, pv_i y2]) (S := []) (t := 81) dX5_plan_32 mk_X5_51 lc_81 (ci := 5) (q := (RX5, TX5, 10)) rfl rfl rfl rfl (Nat.le_of_ble_eq_true rfl) (by decide) (by decide) (Or.inl rfl) (tmX5_weigh e5) ?_
    refine pr_iinc dX5_plan_35 rfl (by decide) rfl ?_
    refine pr_goto (tgt := 18) dX5_plan_38 (by decide) ?_
    refine pr_weak (L2 := [some (pv_r 81), some (pv_i y1), some (pv_i y2), some (pv_i y3), some (pv_i (z4 + 1))]) ⟨Or.inr rfl, Or.inr rfl, Or.inr rfl, Or.inr rfl, Or.inr rfl, trivial⟩ ?_
    exact hc ((z4 + 1), q4) (Option.some.inj h).symm
def fX5_plan (x1 : Int) (x2 : Int) (σ : pm_M) : Option (pm_M) :=
  (fX5_sortByDue σ).bind fun q1 => (pm_it (fun a => bdX5_plan_18 x1 x2 q1.1 a.1 a.2) pm_fuel (1, (pm_up (pm_up q1.2 81 8 0) 81 9 0))).bind fun v6 => some v6.2
set_option maxHeartbeats 4000000 in
set_option maxRecDepth 100000 in
theorem tmX5_plan {x1 : Int} {x2 : Int} {σ : pm_M} {ρ : pm_M} (h : fX5_plan x1 x2 σ = some ρ) : pm_C mX5_plan 3 73 [pv_r 81, pv_i x1, pv_i x2] LAYC σ none LAYC ρ := by
  refine pm_C.of (by decide) rfl (Nat.le_of_ble_eq_true rfl) ?_
  show pm_J mX5_plan 3 73 LAYC none LAYC ρ 0 [some (pv_r 81), some (pv_i x1), some (pv_i x2), none, none] [] LAYC σ
  unfold fX5_plan at h
  refine pr_aload_n dX5_plan_0 rfl ?_
  obtain ⟨q1, e2, h⟩ := pm_bs h
  refine pr_callV (As := []) (S := []) (t := 81) dX5_plan_1 mk_X5_41 lc_81 (ci := 5) (q := (RX5, TX5, 10)) rfl rfl rfl rfl (Nat.le_of_ble_eq_true rfl) (by decide) (by decide) (Or.inl rfl) (tmX5_sortByDue e2) ?_
  refine pr_istore_n dX5_plan_4 (by decide) rfl ?_
  refine pr_aload_n dX5_plan_5 rfl ?_
  refine pr_iconst dX5_plan_6 ?_
  refine pr_putI dX5_plan_7 lp_X5_45 lc_81 rfl ?_
  refine pr_aload_n dX5_plan_10 rfl ?_
  refine pr_iconst dX5_plan_11 ?_
  refine pr_putI dX5_plan_12 lp_X5_48 lc_81 rfl ?_
  refine pr_iconst dX5_plan_15 ?_
  refine pr_istore dX5_plan_16 (by decide) rfl ?_
  obtain ⟨v6, e7, h⟩ := pm_bs h
  refine pr_weak (L2 := [some (pv_r 81), some (pv_i x1), some (pv_i x2), some (pv_i q1.1), some (pv_i 1)]) ⟨Or.inr rfl, Or.inr rfl, Or.inr rfl, Or.inr rfl, Or.inr rfl, trivial⟩ ?_
  refine pm_it_J (α := Int × pm_M) (β := Int × pm_M) (f := fun a => bdX5_plan_18 x1 x2 q1.1 a.1 a.2) (P := fun a => pm_J mX5_plan 3 73 LAYC none LAYC ρ 18 [some (pv_r 81), some (pv_i x1), some (pv_i x2), some (pv_i q1.1), some (pv_i a.1)] [] LAYC a.2) (Rx := fun a => pm_J mX5_plan 3 73 LAYC none LAYC ρ 41 [none, none, none, none, none] [] LAYC a.2) (tbX5_plan_18 x1 x2 q1.1) pm_fuel (1, (pm_up (pm_up q1.2 81 8 0) 81 9 0)) v6 e7 ?_
  show pm_J mX5_plan 3 73 LAYC none LAYC ρ 41 [none, none, none, none, none] [] LAYC v6.2
  have h := Option.some.inj h
  subst h
  exact pr_vret dX5_plan_41 rfl
