def fX12_hasPulp (x1 : Int) (σ : pm_M) : Option (Int) :=
  if 80 ≤ (wr (σ 25 (Int.toNat 752))) then (some 0) else (pm_g (0 ≤ (wr x1) ∧ (wr x1) < 3) (pm_g (0 ≤ (wr (96 + (σ 15 (Int.toNat (wr x1))))) ∧ (wr (96 + (σ 15 (Int.toNat (wr x1))))) < 755) (pm_g (0 ≤ (wr x1) ∧ (wr x1) < 3) (pm_g (0 ≤ (wr (σ 14 (Int.toNat (wr x1)))) ∧ (wr (σ 14 (Int.toNat (wr x1)))) < 4) (if (wr (σ 25 (Int.toNat (wr (96 + (σ 15 (Int.toNat (wr x1)))))))) < (wr (σ 11 (Int.toNat (wr (σ 14 (Int.toNat (wr x1))))))) then (some 0) else (some 1))))))
set_option maxHeartbeats 4000000 in
set_option maxRecDepth 100000 in
theorem tmX12_hasPulp {x1 : Int} {σ : pm_M} {ρ : Int} (h : fX12_hasPulp x1 σ = some ρ) : pm_C mX12_hasPulp 0 0 [pv_r 0, pv_i x1] LAYM σ (some (pv_i ρ)) LAYM σ := by
  refine pm_C.of (by decide) rfl (Nat.le_of_ble_eq_true rfl) ?_
  show pm_J mX12_hasPulp 0 0 LAYM (some (pv_i ρ)) LAYM σ 0 [some (pv_r 0), some (pv_i x1)] [] LAYM σ
  unfold fX12_hasPulp at h
  refine pr_aload_n dX12_hasPulp_0 rfl ?_
  refine pr_getR dX12_hasPulp_1 lk_X12_86 lm_0 rfl ?_
  refine pr_sipush dX12_hasPulp_4 (by decide) ?_
  refine pr_iald dX12_hasPulp_7 lm_25 (wr_eq (by decide) (by decide)) ⟨by decide, by decide⟩ ?_
  refine pr_bipush dX12_hasPulp_8 (by decide) ?_
  refine pr_icmp_ge (tgt := 45) dX12_hasPulp_10 rfl (wr_eq (by decide) (by decide)) (by decide) (fun c_1 => ?_) (fun c_1 => ?_)
  · have h := pm_pos c_1 h
    refine pr_iconst dX12_hasPulp_45 ?_
    have h := Option.some.inj h
    subst h
    exact pr_zret dX12_hasPulp_46 rfl (Or.inl rfl)
  · have h := pm_ng c_1 h
    refine pr_aload_n dX12_hasPulp_13 rfl ?_
    refine pr_getR dX12_hasPulp_14 lk_X12_86 lm_0 rfl ?_
    refine pr_bipush dX12_hasPulp_17 (by decide) ?_
    refine pr_aload_n dX12_hasPulp_19 rfl ?_
    refine pr_getR dX12_hasPulp_20 lk_X12_52 lm_0 rfl ?_
    refine pr_iload_n dX12_hasPulp_23 rfl ?_
    obtain ⟨g_2, h⟩ := pm_gs h
    refine pr_iald dX12_hasPulp_24 lm_15 rfl g_2 ?_
    refine pr_iadd dX12_hasPulp_25 ?_
    obtain ⟨g_3, h⟩ := pm_gs h
    refine pr_iald dX12_hasPulp_26 lm_25 rfl g_3 ?_
    refine pr_aload_n dX12_hasPulp_27 rfl ?_
    refine pr_getR dX12_hasPulp_28 lk_X12_40 lm_0 rfl ?_
    refine pr_aload_n dX12_hasPulp_31 rfl ?_
    refine pr_getR dX12_hasPulp_32 lk_X12_49 lm_0 rfl ?_
    refine pr_iload_n dX12_hasPulp_35 rfl ?_
    obtain ⟨g_4, h⟩ := pm_gs h
    refine pr_iald dX12_hasPulp_36 lm_14 rfl g_4 ?_
    obtain ⟨g_5, h⟩ := pm_gs h
    refine pr_iald dX12_hasPulp_37 lm_11 rfl g_5 ?_
    refine pr_icmp_lt (tgt := 45) dX12_hasPulp_38 rfl rfl (by decide) (fun c_6 => ?_) (fun c_6 => ?_)
    · have h := pm_pos c_6 h
      refine pr_iconst dX12_hasPulp_45 ?_
      have h := Option.some.inj h
      subst h
      exact pr_zret dX12_hasPulp_46 rfl (Or.inl rfl)
    · have h := pm_ng c_6 h
      refine pr_iconst dX12_hasPulp_41 ?_
      refine pr_goto (tgt := 46) dX12_hasPulp_42 (by decide) ?_
      have h := Option.some.inj h
      subst h
      exact pr_zret dX12_hasPulp_46 rfl (Or.inr rfl)
def bdX12_works_4 (z2 : Int) (z3 : Int) (σ : pm_M) : Option ((Int × Int × pm_M) ⊕ (Int × Int × pm_M)) :=
  if 4 ≤ (wr z3) then (some (.inl (z2, z3, σ))) else (pm_g (0 ≤ (wr (80 + (4 * z3))) ∧ (wr (80 + (4 * z3))) < 755) (if (wr (σ 25 (Int.toNat (wr (80 + (4 * z3)))))) = 0 then (some (.inr (z2, (z3 + 1), σ))) else (if 6 ≤ (wr z2) then (pm_g (0 ≤ (wr ((80 + (4 * z3)) + 2)) ∧ (wr ((80 + (4 * z3)) + 2)) < 755) (pm_g (0 ≤ (wr ((80 + (4 * z3)) + 2)) ∧ (wr ((80 + (4 * z3)) + 2)) < 755) (pm_g (0 ≤ (wr ((80 + (4 * z3)) + 2)) ∧ (wr ((80 + (4 * z3)) + 2)) < 755) (if (wr ((pm_up σ 25 (Int.toNat (wr ((80 + (4 * z3)) + 2))) ((σ 25 (Int.toNat (wr ((80 + (4 * z3)) + 2)))) - 1)) 25 (Int.toNat (wr ((80 + (4 * z3)) + 2))))) ≤ 0 then (pm_g (0 ≤ (wr ((80 + (4 * z3)) + 1)) ∧ (wr ((80 + (4 * z3)) + 1)) < 755) (pm_g (0 ≤ (wr (96 + ((pm_up σ 25 (Int.toNat (wr ((80 + (4 * z3)) + 2))) ((σ 25 (Int.toNat (wr ((80 + (4 * z3)) + 2)))) - 1)) 25 (Int.toNat (wr ((80 + (4 * z3)) + 1)))))) ∧ (wr (96 + ((pm_up σ 25 (Int.toNat (wr ((80 + (4 * z3)) + 2))) ((σ 25 (Int.toNat (wr ((80 + (4 * z3)) + 2)))) - 1)) 25 (Int.toNat (wr ((80 + (4 * z3)) + 1)))))) < 755) (pm_g (0 ≤ (wr (80 + (4 * z3))) ∧ (wr (80 + (4 * z3))) < 755) (pm_g (0 ≤ (wr (96 + ((pm_up σ 25 (Int.toNat (wr ((80 + (4 * z3)) + 2))) ((σ 25 (Int.toNat (wr ((80 + (4 * z3)) + 2)))) - 1)) 25 (Int.toNat (wr ((80 + (4 * z3)) + 1)))))) ∧ (wr (96 + ((pm_up σ 25 (Int.toNat (wr ((80 + (4 * z3)) + 2))) ((σ 25 (Int.toNat (wr ((80 + (4 * z3)) + 2)))) - 1)) 25 (Int.toNat (wr ((80 + (4 * z3)) + 1)))))) < 755) (pm_g (0 ≤ (wr (80 + (4 * z3))) ∧ (wr (80 + (4 * z3))) < 755) (pm_g (0 ≤ (wr ((80 + (4 * z3)) + 3)) ∧ (wr ((80 + (4 * z3)) + 3)) < 755) (pm_g (0 ≤ (wr ((80 + (4 * z3)) + 3)) ∧ (wr ((80 + (4 * z3)) + 3)) < 755) (some (.inr ((z2 + (-6)), (z3 + 1), (pm_up (pm_up (pm_up (pm_up σ 25 (Int.toNat (wr ((80 + (4 * z3)) + 2))) ((σ 25 (Int.toNat (wr ((80 + (4 * z3)) + 2)))) - 1)) 25 (Int.toNat (wr (96 + ((pm_up σ 25 (Int.toNat (wr ((80 + (4 * z3)) + 2))) ((σ 25 (Int.toNat (wr ((80 + (4 * z3)) + 2)))) - 1)) 25 (Int.toNat (wr ((80 + (4 * z3)) + 1))))))) (((pm_up σ 25 (Int.toNat (wr ((80 + (4 * z3)) + 2))) ((σ 25 (Int.toNat (wr ((80 + (4 * z3)) + 2)))) - 1)) 25 (Int.toNat (wr (96 + ((pm_up σ 25 (Int.toNat (wr ((80 + (4 * z3)) + 2))) ((σ 25 (Int.toNat (wr ((80 + (4 * z3)) + 2)))) - 1)) 25 (Int.toNat (wr ((80 + (4 * z3)) + 1)))))))) + (14 * ((pm_up σ 25 (Int.toNat (wr ((80 + (4 * z3)) + 2))) ((σ 25 (Int.toNat (wr ((80 + (4 * z3)) + 2)))) - 1)) 25 (Int.toNat (wr (80 + (4 * z3)))))))) 25 (Int.toNat (wr (80 + (4 * z3)))) 0) 25 (Int.toNat (wr ((80 + (4 * z3)) + 3))) (((pm_up (pm_up (pm_up σ 25 (Int.toNat (wr ((80 + (4 * z3)) + 2))) ((σ 25 (Int.toNat (wr ((80 + (4 * z3)) + 2)))) - 1)) 25 (Int.toNat (wr (96 + ((pm_up σ 25 (Int.toNat (wr ((80 + (4 * z3)) + 2))) ((σ 25 (Int.toNat (wr ((80 + (4 * z3)) + 2)))) - 1)) 25 (Int.toNat (wr ((80 + (4 * z3)) + 1))))))) (((pm_up σ 25 (Int.toNat (wr ((80 + (4 * z3)) + 2))) ((σ 25 (Int.toNat (wr ((80 + (4 * z3)) + 2)))) - 1)) 25 (Int.toNat (wr (96 + ((pm_up σ 25 (Int.toNat (wr ((80 + (4 * z3)) + 2))) ((σ 25 (Int.toNat (wr ((80 + (4 * z3)) + 2)))) - 1)) 25 (Int.toNat (wr ((80 + (4 * z3)) + 1)))))))) + (14 * ((pm_up σ 25 (Int.toNat (wr ((80 + (4 * z3)) + 2))) ((σ 25 (Int.toNat (wr ((80 + (4 * z3)) + 2)))) - 1)) 25 (Int.toNat (wr (80 + (4 * z3)))))))) 25 (Int.toNat (wr (80 + (4 * z3)))) 0) 25 (Int.toNat (wr ((80 + (4 * z3)) + 3)))) + 1)))))))))))) else (some (.inr ((z2 + (-6)), (z3 + 1), (pm_up σ 25 (Int.toNat (wr ((80 + (4 * z3)) + 2))) ((σ 25 (Int.toNat (wr ((80 + (4 * z3)) + 2)))) - 1))))))))) else (some (.inr (z2, (z3 + 1), σ))))))
set_option maxHeartbeats 4000000 in
set_option maxRecDepth 100000 in
theorem tbX12_works_4 {lay0 lay' : List pm_S} {r : Option pm_V} {σ' : pm_M} : ∀ (a : Int × Int × pm_M) (e : (Int × Int × pm_M) ⊕ (Int × Int × pm_M)), (fun a => bdX12_works_4 a.1 a.2.1 a.2.2) a = some e → (∀ a, e = .inr a → (fun a => pm_J mX12_works 3 70 lay0 r lay' σ' 4 [some (pv_r 0), none, some (pv_i a.1), some (pv_i a.2.1), none] [] LAYM a.2.2) a) → (∀ a, e = .inl a → (fun a => pm_J mX12_works 3 70 lay0 r lay' σ' 124 [some (pv_r 0), none, some (pv_i a.1), none, none] [] LAYM a.2.2) a) → (fun a => pm_J mX12_works 3 70 lay0 r lay' σ' 4 [some (pv_r 0), none, some (pv_i a.1), some (pv_i a.2.1), none] [] LAYM a.2.2) a := by
  intro a e h hc hx
  obtain ⟨z2, z3, σ⟩ := a
  have h : bdX12_works_4 z2 z3 σ = some e := h
  unfold bdX12_works_4 at h
  show pm_J mX12_works 3 70 lay0 r lay' σ' 4 [some (pv_r 0), none, some (pv_i z2), some (pv_i z3), none] [] LAYM σ
  refine pr_iload_n dX12_works_4 rfl ?_
  refine pr_iconst dX12_works_5 ?_
  refine pr_icmp_ge (tgt := 124) dX12_works_6 rfl (wr_eq (by decide) (by decide)) (by decide) (fun c_1 => ?_) (fun c_1 => ?_)
  · have h := pm_pos c_1 h
    refine pr_weak (L2 := [some (pv_r 0), none, some (pv_i z2), none, none]) ⟨Or.inr rfl, Or.inl rfl, Or.inr rfl, Or.inl rfl, Or.inl rfl, trivial⟩ ?_
    exact hx (z2, z3, σ) (Option.some.inj h).symm
  · have h := pm_ng c_1 h
    refine pr_bipush dX12_works_9 (by decide) ?_
    refine pr_iconst dX12_works_11 ?_
    refine pr_iload_n dX12_works_12 rfl ?_
    refine pr_imul dX12_works_13 ?_
    refine pr_iadd dX12_works_14 ?_
    refine pr_istore dX12_works_15 (by decide) rfl ?_
    refine pr_aload_n dX12_works_17 rfl ?_
    refine pr_getR dX12_works_18 lk_X12_86 lm_0 rfl ?_
    refine pr_iload dX12_works_21 rfl ?_
    obtain ⟨g_2, h⟩ := pm_gs h
    refine pr_iald dX12_works_23 lm_25 rfl g_2 ?_
    refine pr_if_eq (tgt := 118) dX12_works_24 rfl (by decide) (fun c_3 => ?_) (fun c_3 => ?_)
    · have h := pm_pos c_3 h
      refine pr_iinc dX12_works_118 rfl (by decide) rfl ?_
      refine pr_goto (tgt := 4) dX12_works_121 (by decide) ?_
      refine pr_weak (L2 := [some (pv_r 0), none, some (pv_i z2), some (pv_i (z3 + 1)), none]) ⟨Or.inr rfl, Or.inl rfl, Or.inr rfl, Or.inr rfl, Or.inl rfl, trivial⟩ ?_
      exact hc (z2, (z3 + 1), σ) (Option.some.inj h).symm
    · have h := pm_ng c_3 h
      refine pr_iload_n dX12_works_27 rfl ?_
      refine pr_bipush dX12_works_28 (by decide) ?_
      refine pr_icmp_ge (tgt := 36) dX12_works_30 rfl (wr_eq (by decide) (by decide)) (by decide) (fun c_4 => ?_) (fun c_4 => ?_)
      · have h := pm_pos c_4 h
        refine pr_iinc dX12_works_36 rfl (by decide) rfl ?_
        refine pr_aload_n dX12_works_39 rfl ?_
        refine pr_getR dX12_works_40 lk_X12_86 lm_0 rfl ?_
        refine pr_iload dX12_works_43 rfl ?_
        refine pr_iconst dX12_works_45 ?_
        refine pr_iadd dX12_works_46 ?_
        refine pr_dup2 dX12_works_47 rfl rfl ?_
        obtain ⟨g_5, h⟩ := pm_gs h
        refine pr_iald dX12_works_48 lm_25 rfl g_5 ?_
        refine pr_iconst dX12_works_49 ?_
        refine pr_isub dX12_works_50 ?_
        obtain ⟨g_6, h⟩ := pm_gs h
        refine pr_iast dX12_works_51 lm_25 rfl g_6 ?_
        refine pr_aload_n dX12_works_52 rfl ?_
        refine pr_getR dX12_works_53 lk_X12_86 lm_0 rfl ?_
        refine pr_iload dX12_works_56 rfl ?_
        refine pr_iconst dX12_works_58 ?_
        refine pr_iadd dX12_works_59 ?_
        obtain ⟨g_7, h⟩ := pm_gs h
        refine pr_iald dX12_works_60 lm_25 rfl g_7 ?_
        refine pr_if_le (tgt := 67) dX12_works_61 rfl (by decide) (fun c_8 => ?_) (fun c_8 => ?_)
        · have h := pm_pos c_8 h
          refine pr_aload_n dX12_works_67 rfl ?_
          refine pr_getR dX12_works_68 lk_X12_86 lm_0 rfl ?_
          refine pr_bipush dX12_works_71 (by decide) ?_
          refine pr_aload_n dX12_works_73 rfl ?_
          refine pr_getR dX12_works_74 lk_X12_86 lm_0 rfl ?_
          refine pr_iload dX12_works_77 rfl ?_
          refine pr_iconst dX12_works_79 ?_
          refine pr_iadd dX12_works_80 ?_
          obtain ⟨g_9, h⟩ := pm_gs h
          refine pr_iald dX12_works_81 lm_25 rfl g_9 ?_
          refine pr_iadd dX12_works_82 ?_
          refine pr_dup2 dX12_works_83 rfl rfl ?_
          obtain ⟨g_10, h⟩ := pm_gs h
          refine pr_iald dX12_works_84 lm_25 rfl g_10 ?_
          refine pr_bipush dX12_works_85 (by decide) ?_
          refine pr_aload_n dX12_works_87 rfl ?_
          refine pr_getR dX12_works_88 lk_X12_86 lm_0 rfl ?_
          refine pr_iload dX12_works_91 rfl ?_
          obtain ⟨g_11, h⟩ := pm_gs h
          refine pr_iald dX12_works_93 lm_25 rfl g_11 ?_
          refine pr_imul dX12_works_94 ?_
          refine pr_iadd dX12_works_95 ?_
          obtain ⟨g_12, h⟩ := pm_gs h
          refine pr_iast dX12_works_96 lm_25 rfl g_12 ?_
          refine pr_aload_n dX12_works_97 rfl ?_
          refine pr_getR dX12_works_98 lk_X12_86 lm_0 rfl ?_
          refine pr_iload dX12_works_101 rfl ?_
          refine pr_iconst dX12_works_103 ?_
          obtain ⟨g_13, h⟩ := pm_gs h
          refine pr_iast dX12_works_104 lm_25 rfl g_13 ?_
          refine pr_aload_n dX12_works_105 rfl ?_
          refine pr_getR dX12_works_106 lk_X12_86 lm_0 rfl ?_
          refine pr_iload dX12_works_109 rfl ?_
          refine pr_iconst dX12_works_111 ?_
          refine pr_iadd dX12_works_112 ?_
          refine pr_dup2 dX12_works_113 rfl rfl ?_
          obtain ⟨g_14, h⟩ := pm_gs h
          refine pr_iald dX12_works_114 lm_25 rfl g_14 ?_
          refine pr_iconst dX12_works_115 ?_
          refine pr_iadd dX12_works_116 ?_
          obtain ⟨g_15, h⟩ := pm_gs h
          refine pr_iast dX12_works_117 lm_25 rfl g_15 ?_
          refine pr_iinc dX12_works_118 rfl (by decide) rfl ?_
          refine pr_goto (tgt := 4) dX12_works_121 (by decide) ?_
          refine pr_weak (L2 := [some (pv_r 0), none, some (pv_i (z2 + (-6))), some (pv_i (z3 + 1)), none]) ⟨Or.inr rfl, Or.inl rfl, Or.inr rfl, Or.inr rfl, Or.inl rfl, trivial⟩ ?_
          exact hc ((z2 + (-6)), (z3 + 1), (pm_up (pm_up (pm_up (pm_up σ 25 (Int.toNat (wr ((80 + (4 * z3)) + 2))) ((σ 25 (Int.toNat (wr ((80 + (4 * z3)) + 2)))) - 1)) 25 (Int.toNat (wr (96 + ((pm_up σ 25 (Int.toNat (wr ((80 + (4 * z3)) + 2))) ((σ 25 (Int.toNat (wr ((80 + (4 * z3)) + 2)))) - 1)) 25 (Int.toNat (wr ((80 + (4 * z3)) + 1))))))) (((pm_up σ 25 (Int.toNat (wr ((80 + (4 * z3)) + 2))) ((σ 25 (Int.toNat (wr ((80 + (4 * z3)) + 2)))) - 1)) 25 (Int.toNat (wr (96 + ((pm_up σ 25 (Int.toNat (wr ((80 + (4 * z3)) + 2))) ((σ 25 (Int.toNat (wr ((80 + (4 * z3)) + 2)))) - 1)) 25 (Int.toNat (wr ((80 + (4 * z3)) + 1)))))))) + (14 * ((pm_up σ 25 (Int.toNat (wr ((80 + (4 * z3)) + 2))) ((σ 25 (Int.toNat (wr ((80 + (4 * z3)) + 2)))) - 1)) 25 (Int.toNat (wr (80 + (4 * z3)))))))) 25 (Int.toNat (wr (80 + (4 * z3)))) 0) 25 (Int.toNat (wr ((80 + (4 * z3)) + 3))) (((pm_up (pm_up (pm_up σ 25 (Int.toNat (wr ((80 + (4 * z3)) + 2))) ((σ 25 (Int.toNat (wr ((80 + (4 * z3)) + 2)))) - 1)) 25 (Int.toNat (wr (96 + ((pm_up σ 25 (Int.toNat (wr ((80 + (4 * z3)) + 2))) ((σ 25 (Int.toNat (wr ((80 + (4 * z3)) + 2)))) - 1)) 25 (Int.toNat (wr ((80 + (4 * z3)) + 1))))))) (((pm_up σ 25 (Int.toNat (wr ((80 + (4 * z3)) + 2))) ((σ 25 (Int.toNat (wr ((80 + (4 * z3)) + 2)))) - 1)) 25 (Int.toNat (wr (96 + ((pm_up σ 25 (Int.toNat (wr ((80 + (4 * z3)) + 2))) ((σ 25 (Int.toNat (wr ((80 + (4 * z3)) + 2)))) - 1)) 25 (Int.toNat (wr ((80 + (4 * z3)) + 1)))))))) + (14 * ((pm_up σ 25 (Int.toNat (wr ((80 + (4 * z3)) + 2))) ((σ 25 (Int.toNat (wr ((80 + (4 * z3)) + 2)))) - 1)) 25 (Int.toNat (wr (80 + (4 * z3)))))))) 25 (Int.toNat (wr (80 + (4 * z3)))) 0) 25 (Int.toNat (wr ((80 + (4 * z3)) + 3)))) + 1))) (Option.some.inj h).symm
        · have h := pm_ng c_8 h
          refine pr_goto (tgt := 118) dX12_works_64 (by decide) ?_
          refine pr_iinc dX12_works_118 rfl (by decide) rfl ?_
          refine pr_goto (tgt := 4) dX12_works_121 (by decide) ?_
          refine pr_weak (L2 := [some (pv_r 0), none, some (pv_i (z2 + (-6))), some (pv_i (z3 + 1)), none]) ⟨Or.inr rfl, Or.inl rfl, Or.inr rfl, Or.inr rfl, Or.inl rfl, trivial⟩ ?_
          exact hc ((z2 + (-6)), (z3 + 1), (pm_up σ 25 (Int.toNat (wr ((80 + (4 * z3)) + 2))) ((σ 25 (Int.toNat (wr ((80 + (4 * z3)) + 2)))) - 1))) (Option.some.inj h).symm
      · have h := pm_ng c_4 h
        refine pr_goto (tgt := 118) dX12_works_33 (by decide) ?_
        refine pr_iinc dX12_works_118 rfl (by decide) rfl ?_
        refine pr_goto (tgt := 4) dX12_works_121 (by decide) ?_
        refine pr_weak (L2 := [some (pv_r 0), none, some (pv_i z2), some (pv_i (z3 + 1)), none]) ⟨Or.inr rfl, Or.inl rfl, Or.inr rfl, Or.inr rfl, Or.inl rfl, trivial⟩ ?_
        exact hc (z2, (z3 + 1), σ) (Option.some.inj h).symm
def jnX12_works_156l126 (w2 : Int) (w3 : Int) (σ : pm_M) : Option ((Int × Int × pm_M) ⊕ (Int × Int × pm_M)) :=
  pm_g (0 ≤ (wr ((105 + (2 * w3)) + 1)) ∧ (wr ((105 + (2 * w3)) + 1)) < 755) (pm_g (0 ≤ (wr ((105 + (2 * w3)) + 1)) ∧ (wr ((105 + (2 * w3)) + 1)) < 755) (some (.inr (w2, (w3 + 1), (pm_up σ 25 (Int.toNat (wr ((105 + (2 * w3)) + 1))) ((σ 25 (Int.toNat (wr ((105 + (2 * w3)) + 1)))) + 1))))))
set_option maxHeartbeats 4000000 in
set_option maxRecDepth 100000 in
theorem tjX12_works_156l126 {lay0 lay' : List pm_S} {r : Option pm_V} {σ' : pm_M} {w2 : Int} {w3 : Int} {σ : pm_M} {e : (Int × Int × pm_M) ⊕ (Int × Int × pm_M)} (h : jnX12_works_156l126 w2 w3 σ = some e) (hc : ∀ a, e = .inr a → (fun a => pm_J mX12_works 3 70 lay0 r lay' σ' 126 [some (pv_r 0), none, some (pv_i a.1), some (pv_i a.2.1), none] [] LAYM a.2.2) a) (hx : ∀ a, e = .inl a → (fun a => pm_J mX12_works 3 70 lay0 r lay' σ' 214 [none, none, none, none, none] [] LAYM a.2.2) a) : pm_J mX12_works 3 70 lay0 r lay' σ' 156 [some (pv_r 0), none, some (pv_i w2), some (pv_i w3), none] [] LAYM σ := by
  unfold jnX12_works_156l126 at h
  refine pr_aload_n dX12_works_156 rfl ?_
  refine pr_getR dX12_works_157 lk_X12_86 lm_0 rfl ?_
  refine pr_bipush dX12_works_160 (by decide) ?_
  refine pr_iconst dX12_works_162 ?_
  refine pr_iload_n dX12_works_163 rfl ?_
  refine pr_imul dX12_works_164 ?_
  refine pr_iadd dX12_works_165 ?_
  refine pr_iconst dX12_works_166 ?_
  refine pr_iadd dX12_works_167 ?_
  refine pr_dup2 dX12_works_168 rfl rfl ?_
  obtain ⟨g_22, h⟩ := pm_gs h
  refine pr_iald dX12_works_169 lm_25 rfl g_22 ?_
  refine pr_iconst dX12_works_170 ?_
  refine pr_iadd dX12_works_171 ?_
  obtain ⟨g_23, h⟩ := pm_gs h
  refine pr_iast dX12_works_172 lm_25 rfl g_23 ?_
  refine pr_goto (tgt := 208) dX12_works_173 (by decide) ?_
  refine pr_iinc dX12_works_208 rfl (by decide) rfl ?_
  refine pr_goto (tgt := 126) dX12_works_211 (by decide) ?_
  refine pr_weak (L2 := [some (pv_r 0), none, some (pv_i w2), some (pv_i (w3 + 1)), none]) ⟨Or.inr rfl, Or.inl rfl, Or.inr rfl, Or.inr rfl, Or.inl rfl, trivial⟩ ?_
  exact hc (w2, (w3 + 1), (pm_up σ 25 (Int.toNat (wr ((105 + (2 * w3)) + 1))) ((σ 25 (Int.toNat (wr ((105 + (2 * w3)) + 1)))) + 1))) (Option.some.inj h).symm
def bdX12_works_182 (y2 : Int) (y3 : Int) (z4 : Int) (σ : pm_M) : Option ((Int × pm_M) ⊕ (Int × pm_M)) :=
  if 20 ≤ (wr z4) then (some (.inl (z4, σ))) else ((fX12_hasPulp y3 σ).bind fun q28 => if (wr q28) = 0 then (some (.inl (z4, σ))) else ((fX12_sheet y3 σ).bind fun q31 => some (.inr ((z4 + 1), q31))))
set_option maxHeartbeats 4000000 in
set_option maxRecDepth 100000 in
theorem tbX12_works_182 {lay0 lay' : List pm_S} {r : Option pm_V} {σ' : pm_M} (y2 : Int) (y3 : Int) : ∀ (a : Int × pm_M) (e : (Int × pm_M) ⊕ (Int × pm_M)), (fun a => bdX12_works_182 y2 y3 a.1 a.2) a = some e → (∀ a, e = .inr a → (fun a => pm_J mX12_works 3 70 lay0 r lay' σ' 182 [some (pv_r 0), none, some (pv_i y2), some (pv_i y3), some (pv_i a.1)] [] LAYM a.2) a) → (∀ a, e = .inl a → (fun a => pm_J mX12_works 3 70 lay0 r lay' σ' 208 [some (pv_r 0), none, some (pv_i y2), some (pv_i y3), none] [] LAYM a.2) a) → (fun a => pm_J mX12_works 3 70 lay0 r lay' σ' 182 [some (pv_r 0), none, some (pv_i y2), some (pv_i y3), some (pv_i a.1)] [] LAYM a.2) a := by
  intro a e h hc hx
  obtain ⟨z4, σ⟩ := a
  have h : bdX12_works_182 y2 y3 z4 σ = some e := h
  unfold bdX12_works_182 at h
  show pm_J mX12_works 3 70 lay0 r lay' σ' 182 [some (pv_r 0), none, some (pv_i y2), some (pv_i y3), some (pv_i z4)] [] LAYM σ
  refine pr_iload dX12_works_182 rfl ?_
  refine pr_bipush dX12_works_184 (by decide) ?_
  refine pr_icmp_ge (tgt := 208) dX12_works_186 rfl (wr_eq (by decide) (by decide)) (by decide) (fun c_27 => ?_) (fun c_27 => ?_)
  · have h := pm_pos c_27 h
    refine pr_weak (L2 := [some (pv_r 0), none, some (pv_i y2), some (pv_i y3), none]) ⟨Or.inr rfl, Or.inl rfl, Or.inr rfl, Or.inr rfl, Or.inl rfl, trivial⟩ ?_
    exact hx (z4, σ) (Option.some.inj h).symm
  · have h := pm_ng c_27 h
    refine pr_aload_n dX12_works_189 rfl ?_
    refine pr_iload_n dX12_works_190 rfl ?_
    obtain ⟨q28, e29, h⟩ := pm_bs h
    refine pr_callV (As := [pv_i y3]) (S := []) (t := 0) dX12_works_191 mk_X12_184 lm_0 (ci := 12) (q := (RX12, TX12, 36)) rfl rfl rfl rfl (Nat.le_of_ble_eq_true rfl) (by decide) (by decide) (Or.inl rfl) (tmX12_hasPulp e29) ?_
    refine pr_if_eq (tgt := 208) dX12_works_194 rfl (by decide) (fun c_30 => ?_) (fun c_30 => ?_)
    · have h := pm_pos c_30 h
      refine pr_weak (L2 := [some (pv_r 0), none, some (pv_i y2), some (pv_i y3), none]) ⟨Or.inr rfl, Or.inl rfl, Or.inr rfl, Or.inr rfl, Or.inl rfl, trivial⟩ ?_
      exact hx (z4, σ) (Option.some.inj h).symm
    · have h := pm_ng c_30 h
      refine pr_aload_n dX12_works_197 rfl ?_
      refine pr_iload_n dX12_works_198 rfl ?_
      obtain ⟨q31, e32, h⟩ := pm_bs h
      refine pr_callV (As := [pv_i y3]) (S := []) (t := 0) dX12_works_199 mk_X12_187 lm_0 (ci := 12) (q := (RX12, TX12, 36)) rfl rfl rfl rfl (Nat.le_of_ble_eq_true rfl) (by decide) (by decide) (Or.inl rfl) (tmX12_sheet e32) ?_
      refine pr_iinc dX12_works_202 rfl (by decide) rfl ?_
      refine pr_goto (tgt := 182) dX12_works_205 (by decide) ?_
      refine pr_weak (L2 := [some (pv_r 0), none, some (pv_i y2), some (pv_i y3), some (pv_i (z4 + 1))]) ⟨Or.inr rfl, Or.inl rfl, Or.inr rfl, Or.inr rfl, Or.inr rfl, trivial⟩ ?_
      exact hc ((z4 + 1), q31) (Option.some.inj h).symm
def bdX12_works_126 (z2 : Int) (z3 : Int) (σ : pm_M) : Option ((Int × Int × pm_M) ⊕ (Int × Int × pm_M)) :=
  if 3 ≤ (wr z3) then (some (.inl (z2, z3, σ))) else (pm_g (0 ≤ (wr z3) ∧ (wr z3) < 3) (if 0 ≤ (wr (σ 14 (Int.toNat (wr z3)))) then (if (wr z2) < 2 then (jnX12_works_156l126 z2 z3 σ) else ((fX12_hasPulp z3 σ).bind fun q24 => if (wr q24) = 0 then (jnX12_works_156l126 z2 z3 σ) else ((pm_it (fun a => bdX12_works_182 (z2 + (-2)) z3 a.1 a.2) pm_fuel (0, σ)).bind fun v33 => some (.inr ((z2 + (-2)), (z3 + 1), v33.2))))) else (some (.inr (z2, (z3 + 1), σ)))))
set_option maxHeartbeats 4000000 in
set_option maxRecDepth 100000 in
theorem tbX12_works_126 {lay0 lay' : List pm_S} {r : Option pm_V} {σ' : pm_M} : ∀ (a : Int × Int × pm_M) (e : (Int × Int × pm_M) ⊕ (Int × Int × pm_M)), (fun a => bdX12_works_126 a.1 a.2.1 a.2.2) a = some e → (∀ a, e = .inr a → (fun a => pm_J mX12_works 3 70 lay0 r lay' σ' 126 [some (pv_r 0), none, some (pv_i a.1), some (pv_i a.2.1), none] [] LAYM a.2.2) a) → (∀ a, e = .inl a → (fun a => pm_J mX12_works 3 70 lay0 r lay' σ' 214 [none, none, none, none, none] [] LAYM a.2.2) a) → (fun a => pm_J mX12_works 3 70 lay0 r lay' σ' 126 [some (pv_r 0), none, some (pv_i a.1), some (pv_i a.2.1), none] [] LAYM a.2.2) a := by
  intro a e h hc hx
  obtain ⟨z2, z3, σ⟩ := a
  have h : bdX12_works_126 z2 z3 σ = some e := h
  unfold bdX12_works_126 at h
  show pm_J mX12_works 3 70 lay0 r lay' σ' 126 [some (pv_r 0), none, some (pv_i z2), some (pv_i z3), none] [] LAYM σ
  refine pr_iload_n dX12_works_126 rfl ?_
  refine pr_iconst dX12_works_127 ?_
  refine pr_icmp_ge (tgt := 214) dX12_works_128 rfl (wr_eq (by decide) (by decide)) (by decide) (fun c_18 => ?_) (fun c_18 => ?_)
  · have h := pm_pos c_18 h
    refine pr_weak (L2 := [none, none, none, none, none]) ⟨Or.inl rfl, Or.inl rfl, Or.inl rfl, Or.inl rfl, Or.inl rfl, trivial⟩ ?_
    exact hx (z2, z3, σ) (Option.some.inj h).symm
  · have h := pm_ng c_18 h
    refine pr_aload_n dX12_works_131 rfl ?_
    refine pr_getR dX12_works_132 lk_X12_49 lm_0 rfl ?_
    refine pr_iload_n dX12_works_135 rfl ?_
    obtain ⟨g_19, h⟩ := pm_gs h
    refine pr_iald dX12_works_136 lm_14 rfl g_19 ?_
    refine pr_if_ge (tgt := 143) dX12_works_137 rfl (by decide) (fun c_20 => ?_) (fun c_20 => ?_)
    · have h := pm_pos c_20 h
      refine pr_iload_n dX12_works_143 rfl ?_
      refine pr_iconst dX12_works_144 ?_
      refine pr_icmp_lt (tgt := 156) dX12_works_145 rfl (wr_eq (by decide) (by decide)) (by decide) (fun c_21 => ?_) (fun c_21 => ?_)
      · have h := pm_pos c_21 h
        refine pr_weak (L2 := [some (pv_r 0), none, some (pv_i z2), some (pv_i z3), none]) ⟨Or.inr rfl, Or.inl rfl, Or.inr rfl, Or.inr rfl, Or.inl rfl, trivial⟩ ?_
        exact tjX12_works_156l126 h hc hx
      · have h := pm_ng c_21 h
        refine pr_aload_n dX12_works_148 rfl ?_
        refine pr_iload_n dX12_works_149 rfl ?_
        obtain ⟨q24, e25, h⟩ := pm_bs h
        refine pr_callV (As := [pv_i z3]) (S := []) (t := 0) dX12_works_150 mk_X12_184 lm_0 (ci := 12) (q := (RX12, TX12, 36)) rfl rfl rfl rfl (Nat.le_of_ble_eq_true rfl) (by decide) (by decide) (Or.inl rfl) (tmX12_hasPulp e25) ?_
        refine pr_if_ne (tgt := 176) dX12_works_153 rfl (by decide) (fun c_26 => ?_) (fun c_26 => ?_)
        · have h := pm_ng c_26 h
          refine pr_iinc dX12_works_176 rfl (by decide) rfl ?_
          refine pr_iconst dX12_works_179 ?_
          refine pr_istore dX12_works_180 (by decide) rfl ?_
          obtain ⟨v33, e34, h⟩ := pm_bs h
          refine pr_weak (L2 := [some (pv_r 0), none, some (pv_i (z2 + (-2))), some (pv_i z3), some (pv_i 0)]) ⟨Or.inr rfl, Or.inl rfl, Or.inr rfl, Or.inr rfl, Or.inr rfl, trivial⟩ ?_
          refine pm_it_J (α := Int × pm_M) (β := Int × pm_M) (f := fun a => bdX12_works_182 (z2 + (-2)) z3 a.1 a.2) (P := fun a => pm_J mX12_works 3 70 lay0 r lay' σ' 182 [some (pv_r 0), none, some (pv_i (z2 + (-2))), some (pv_i z3), some (pv_i a.1)] [] LAYM a.2) (Rx := fun a => pm_J mX12_works 3 70 lay0 r lay' σ' 208 [some (pv_r 0), none, some (pv_i (z2 + (-2))), some (pv_i z3), none] [] LAYM a.2) (tbX12_works_182 (z2 + (-2)) z3) pm_fuel (0, σ) v33 e34 ?_
          show pm_J mX12_works 3 70 lay0 r lay' σ' 208 [some (pv_r 0), none, some (pv_i (z2 + (-2))), some (pv_i z3), none] [] LAYM v33.2
          refine pr_iinc dX12_works_208 rfl (by decide) rfl ?_
          refine pr_goto (tgt := 126) dX12_works_211 (by decide) ?_
          refine pr_weak (L2 := [some (pv_r 0), none, some (pv_i (z2 + (-2))), some (pv_i (z3 + 1)), none]) ⟨Or.inr rfl, Or.inl rfl, Or.inr rfl, Or.inr rfl, Or.inl rfl, trivial⟩ ?_
          exact hc ((z2 + (-2)), (z3 + 1), v33.2) (Option.some.inj h).symm
        · have h := pm_pos c_26 h
          refine pr_weak (L2 := [some (pv_r 0), none, some (pv_i z2), some (pv_i z3), none]) ⟨Or.inr rfl, Or.inl rfl, Or.inr rfl, Or.inr rfl, Or.inl rfl, trivial⟩ ?_
          exact tjX12_works_156l126 h hc hx
    · have h := pm_ng c_20 h
      refine pr_goto (tgt := 208) dX12_works_140 (by decide) ?_
      refine pr_iinc dX12_works_208 rfl (by decide) rfl ?_
      refine pr_goto (tgt := 126) dX12_works_211 (by decide) ?_
      refine pr_weak (L2 := [some (pv_r 0), none, some (pv_i z2), some (pv_i (z3 + 1)), none]) ⟨Or.inr rfl, Or.inl rfl, Or.inr rfl, Or.inr rfl, Or.inl rfl, trivial⟩ ?_
      exact hc (z2, (z3 + 1), σ) (Option.some.inj h).symm
def fX12_works (x1 : Int) (σ : pm_M) : Option (pm_M) :=
  (pm_it (fun a => bdX12_works_4 a.1 a.2.1 a.2.2) pm_fuel (x1, 0, σ)).bind fun v16 => (pm_it (fun a => bdX12_works_126 a.1 a.2.1 a.2.2) pm_fuel (v16.1, 0, v16.2.2)).bind fun v35 => some v35.2.2
set_option maxHeartbeats 4000000 in
set_option maxRecDepth 100000 in
theorem tmX12_works {x1 : Int} {σ : pm_M} {ρ : pm_M} (h : fX12_works x1 σ = some ρ) : pm_C mX12_works 3 70 [pv_r 0, pv_i x1] LAYM σ none LAYM ρ := by
  refine pm_C.of (by decide) rfl (Nat.le_of_ble_eq_true rfl) ?_
  show pm_J mX12_works 3 70 LAYM none LAYM ρ 0 [some (pv_r 0), some (pv_i x1), none, none, none] [] LAYM σ
  unfold fX12_works at h
  refine pr_iload_n dX12_works_0 rfl ?_
  refine pr_istore_n dX12_works_1 (by decide) rfl ?_
  refine pr_iconst dX12_works_2 ?_
  refine pr_istore_n dX12_works_3 (by decide) rfl ?_
  obtain ⟨v16, e17, h⟩ := pm_bs h
  refine pr_weak (L2 := [some (pv_r 0), none, some (pv_i x1), some (pv_i 0), none]) ⟨Or.inr rfl, Or.inl rfl, Or.inr rfl, Or.inr rfl, Or.inl rfl, trivial⟩ ?_
  refine pm_it_J (α := Int × Int × pm_M) (β := Int × Int × pm_M) (f := fun a => bdX12_works_4 a.1 a.2.1 a.2.2) (P := fun a => pm_J mX12_works 3 70 LAYM none LAYM ρ 4 [some (pv_r 0), none, some (pv_i a.1), some (pv_i a.2.1), none] [] LAYM a.2.2) (Rx := fun a => pm_J mX12_works 3 70 LAYM none LAYM ρ 124 [some (pv_r 0), none, some (pv_i a.1), none, none] [] LAYM a.2.2) (tbX12_works_4) pm_fuel (x1, 0, σ) v16 e17 ?_
  show pm_J mX12_works 3 70 LAYM none LAYM ρ 124 [some (pv_r 0), none, some (pv_i v16.1), none, none] [] LAYM v16.2.2
  refine pr_iconst dX12_works_124 ?_
  refine pr_istore_n dX12_works_125 (by decide) rfl ?_
  obtain ⟨v35, e36, h⟩ := pm_bs h
  refine pr_weak (L2 := [some (pv_r 0), none, some (pv_i v16.1), some (pv_i 0), none]) ⟨Or.inr rfl, Or.inl rfl, Or.inr rfl, Or.inr rfl, Or.inl rfl, trivial⟩ ?_
  refine pm_it_J (α := Int × Int × pm_M) (β := Int × Int × pm_M) (f := fun a => bdX12_works_126 a.1 a.2.1 a.2.2) (P := fun a => pm_J mX12_works 3 70 LAYM none LAYM ρ 126 [some (pv_r 0), none, some (pv_i a.1), some (pv_i a.2.1), none] [] LAYM a.2.2) (Rx := fun a => pm_J mX12_works 3 70 LAYM none LAYM ρ 214 [none, none, none, none, none] [] LAYM a.2.2) (tbX12_works_126) pm_fuel (v16.1, 0, v16.2.2) v35 e36 ?_
  show pm_J mX12_works 3 70 LAYM none LAYM ρ 214 [none, none, none, none, none] [] LAYM v35.2.2
  have h := Option.some.inj h
  subst h
  exact pr_vret dX12_works_214 rfl
