def jnX12_fill_144 (w1 : Int) (u0 : Int) (u1 : Int) (σ : pm_M) : Option (Int × pm_M) :=
  pm_g (0 ≤ (wr w1) ∧ (wr w1) < 12) (pm_g (0 ≤ (wr (σ 17 (Int.toNat (wr w1)))) ∧ (wr (σ 17 (Int.toNat (wr w1)))) < 9) (some ((u1 * (u0 - (σ 7 (Int.toNat (wr (σ 17 (Int.toNat (wr w1)))))))), (pm_up σ 0 18 ((σ 0 18) + (u1 * (u0 - (σ 7 (Int.toNat (wr (σ 17 (Int.toNat (wr w1)))))))))))))
set_option maxHeartbeats 4000000 in
set_option maxRecDepth 100000 in
theorem tjX12_fill_144 {lay0 : List pm_S} {w1 : Int} {u0 : Int} {u1 : Int} {σ : pm_M} {ρ : Int × pm_M} (h : jnX12_fill_144 w1 u0 u1 σ = some ρ) : pm_J mX12_fill 1 21 lay0 (some (pv_i ρ.1)) LAYM ρ.2 144 [some (pv_r 0), some (pv_i w1), none, none] [pv_i u0, pv_i u1] LAYM σ := by
  unfold jnX12_fill_144 at h
  refine pr_aload_n dX12_fill_144 rfl ?_
  refine pr_getR dX12_fill_145 lk_X12_28 lm_0 rfl ?_
  refine pr_aload_n dX12_fill_148 rfl ?_
  refine pr_getR dX12_fill_149 lk_X12_62 lm_0 rfl ?_
  refine pr_iload_n dX12_fill_152 rfl ?_
  obtain ⟨g_23, h⟩ := pm_gs h
  refine pr_iald dX12_fill_153 lm_17 rfl g_23 ?_
  obtain ⟨g_24, h⟩ := pm_gs h
  refine pr_iald dX12_fill_154 lm_7 rfl g_24 ?_
  refine pr_isub dX12_fill_155 ?_
  refine pr_imul dX12_fill_156 ?_
  refine pr_istore_n dX12_fill_157 (by decide) rfl ?_
  refine pr_aload_n dX12_fill_158 rfl ?_
  refine pr_dup dX12_fill_159 rfl ?_
  refine pr_getI dX12_fill_160 lk_X12_162 lm_0 rfl ?_
  refine pr_iload_n dX12_fill_163 rfl ?_
  refine pr_iadd dX12_fill_164 ?_
  refine pr_putI dX12_fill_165 lp_X12_162 lm_0 rfl ?_
  refine pr_iload_n dX12_fill_168 rfl ?_
  have h := Option.some.inj h
  subst h
  exact pr_iret dX12_fill_169 rfl
def fX12_fill (x1 : Int) (σ : pm_M) : Option (Int × pm_M) :=
  (fX12_isIn x1 (σ 0 17)).bind fun q1 => if (wr q1) = 0 then ((fX12_refuse (-1) σ).bind fun q28 => some ((1000000000 - q28.1), q28.2)) else (pm_g (0 ≤ (wr x1) ∧ (wr x1) < 12) (pm_g (0 ≤ (wr x1) ∧ (wr x1) < 12) (pm_g (0 ≤ (wr x1) ∧ (wr x1) < 12) (if 0 ≤ (wr (σ 21 (Int.toNat (wr x1)))) then ((fX12_refuse (-3) σ).bind fun q8 => some ((1000000000 - q8.1), q8.2)) else (pm_g (0 ≤ (wr ((9 * (σ 16 (Int.toNat (wr x1)))) + (σ 17 (Int.toNat (wr x1))))) ∧ (wr ((9 * (σ 16 (Int.toNat (wr x1)))) + (σ 17 (Int.toNat (wr x1))))) < 81) (pm_g (0 ≤ (wr x1) ∧ (wr x1) < 12) (if (wr (480 * (σ 18 (Int.toNat (wr x1))))) ≤ (wr (σ 8 (Int.toNat (wr ((9 * (σ 16 (Int.toNat (wr x1)))) + (σ 17 (Int.toNat (wr x1)))))))) then (pm_g (0 ≤ (wr ((9 * (σ 16 (Int.toNat (wr x1)))) + (σ 17 (Int.toNat (wr x1))))) ∧ (wr ((9 * (σ 16 (Int.toNat (wr x1)))) + (σ 17 (Int.toNat (wr x1))))) < 81) (pm_g (0 ≤ (wr x1) ∧ (wr x1) < 12) (pm_g (0 ≤ (wr ((9 * (σ 16 (Int.toNat (wr x1)))) + (σ 17 (Int.toNat (wr x1))))) ∧ (wr ((9 * (σ 16 (Int.toNat (wr x1)))) + (σ 17 (Int.toNat (wr x1))))) < 81) (pm_g (0 ≤ (wr x1) ∧ (wr x1) < 12) (pm_g (0 ≤ (wr x1) ∧ (wr x1) < 12) ((fX12_today (pm_up (pm_up σ 8 (Int.toNat (wr ((9 * (σ 16 (Int.toNat (wr x1)))) + (σ 17 (Int.toNat (wr x1)))))) ((σ 8 (Int.toNat (wr ((9 * (σ 16 (Int.toNat (wr x1)))) + (σ 17 (Int.toNat (wr x1))))))) - (480 * (σ 18 (Int.toNat (wr x1)))))) 21 (Int.toNat (wr x1)) ((pm_up σ 8 (Int.toNat (wr ((9 * (σ 16 (Int.toNat (wr x1)))) + (σ 17 (Int.toNat (wr x1)))))) ((σ 8 (Int.toNat (wr ((9 * (σ 16 (Int.toNat (wr x1)))) + (σ 17 (Int.toNat (wr x1))))))) - (480 * (σ 18 (Int.toNat (wr x1)))))) 25 (Int.toNat 751)))).bind fun q18 => pm_g (0 ≤ (wr x1) ∧ (wr x1) < 12) (if (wr q18) ≤ (wr ((pm_up (pm_up σ 8 (Int.toNat (wr ((9 * (σ 16 (Int.toNat (wr x1)))) + (σ 17 (Int.toNat (wr x1)))))) ((σ 8 (Int.toNat (wr ((9 * (σ 16 (Int.toNat (wr x1)))) + (σ 17 (Int.toNat (wr x1))))))) - (480 * (σ 18 (Int.toNat (wr x1)))))) 21 (Int.toNat (wr x1)) ((pm_up σ 8 (Int.toNat (wr ((9 * (σ 16 (Int.toNat (wr x1)))) + (σ 17 (Int.toNat (wr x1)))))) ((σ 8 (Int.toNat (wr ((9 * (σ 16 (Int.toNat (wr x1)))) + (σ 17 (Int.toNat (wr x1))))))) - (480 * (σ 18 (Int.toNat (wr x1)))))) 25 (Int.toNat 751))) 19 (Int.toNat (wr x1)))) then (pm_g (0 ≤ (wr x1) ∧ (wr x1) < 12) (jnX12_fill_144 x1 ((pm_up (pm_up σ 8 (Int.toNat (wr ((9 * (σ 16 (Int.toNat (wr x1)))) + (σ 17 (Int.toNat (wr x1)))))) ((σ 8 (Int.toNat (wr ((9 * (σ 16 (Int.toNat (wr x1)))) + (σ 17 (Int.toNat (wr x1))))))) - (480 * (σ 18 (Int.toNat (wr x1)))))) 21 (Int.toNat (wr x1)) ((pm_up σ 8 (Int.toNat (wr ((9 * (σ 16 (Int.toNat (wr x1)))) + (σ 17 (Int.toNat (wr x1)))))) ((σ 8 (Int.toNat (wr ((9 * (σ 16 (Int.toNat (wr x1)))) + (σ 17 (Int.toNat (wr x1))))))) - (480 * (σ 18 (Int.toNat (wr x1)))))) 25 (Int.toNat 751))) 20 (Int.toNat (wr x1))) ((pm_up (pm_up σ 8 (Int.toNat (wr ((9 * (σ 16 (Int.toNat (wr x1)))) + (σ 17 (Int.toNat (wr x1)))))) ((σ 8 (Int.toNat (wr ((9 * (σ 16 (Int.toNat (wr x1)))) + (σ 17 (Int.toNat (wr x1))))))) - (480 * (σ 18 (Int.toNat (wr x1)))))) 21 (Int.toNat (wr x1)) ((pm_up σ 8 (Int.toNat (wr ((9 * (σ 16 (Int.toNat (wr x1)))) + (σ 17 (Int.toNat (wr x1)))))) ((σ 8 (Int.toNat (wr ((9 * (σ 16 (Int.toNat (wr x1)))) + (σ 17 (Int.toNat (wr x1))))))) - (480 * (σ 18 (Int.toNat (wr x1)))))) 25 (Int.toNat 751))) 18 (Int.toNat (wr x1))) (pm_up (pm_up σ 8 (Int.toNat (wr ((9 * (σ 16 (Int.toNat (wr x1)))) + (σ 17 (Int.toNat (wr x1)))))) ((σ 8 (Int.toNat (wr ((9 * (σ 16 (Int.toNat (wr x1)))) + (σ 17 (Int.toNat (wr x1))))))) - (480 * (σ 18 (Int.toNat (wr x1)))))) 21 (Int.toNat (wr x1)) ((pm_up σ 8 (Int.toNat (wr ((9 * (σ 16 (Int.toNat (wr x1)))) + (σ 17 (Int.toNat (wr x1)))))) ((σ 8 (Int.toNat (wr ((9 * (σ 16 (Int.toNat (wr x1)))) + (σ 17 (Int.toNat (wr x1))))))) - (480 * (σ 18 (Int.toNat (wr x1)))))) 25 (Int.toNat 751))))) else (pm_g (0 ≤ (wr x1) ∧ (wr x1) < 12) (jnX12_fill_144 x1 (Int.tdiv (wr ((pm_up (pm_up σ 8 (Int.toNat (wr ((9 * (σ 16 (Int.toNat (wr x1)))) + (σ 17 (Int.toNat (wr x1)))))) ((σ 8 (Int.toNat (wr ((9 * (σ 16 (Int.toNat (wr x1)))) + (σ 17 (Int.toNat (wr x1))))))) - (480 * (σ 18 (Int.toNat (wr x1)))))) 21 (Int.toNat (wr x1)) ((pm_up σ 8 (Int.toNat (wr ((9 * (σ 16 (Int.toNat (wr x1)))) + (σ 17 (Int.toNat (wr x1)))))) ((σ 8 (Int.toNat (wr ((9 * (σ 16 (Int.toNat (wr x1)))) + (σ 17 (Int.toNat (wr x1))))))) - (480 * (σ 18 (Int.toNat (wr x1)))))) 25 (Int.toNat 751))) 20 (Int.toNat (wr x1)))) 2) ((pm_up (pm_up σ 8 (Int.toNat (wr ((9 * (σ 16 (Int.toNat (wr x1)))) + (σ 17 (Int.toNat (wr x1)))))) ((σ 8 (Int.toNat (wr ((9 * (σ 16 (Int.toNat (wr x1)))) + (σ 17 (Int.toNat (wr x1))))))) - (480 * (σ 18 (Int.toNat (wr x1)))))) 21 (Int.toNat (wr x1)) ((pm_up σ 8 (Int.toNat (wr ((9 * (σ 16 (Int.toNat (wr x1)))) + (σ 17 (Int.toNat (wr x1)))))) ((σ 8 (Int.toNat (wr ((9 * (σ 16 (Int.toNat (wr x1)))) + (σ 17 (Int.toNat (wr x1))))))) - (480 * (σ 18 (Int.toNat (wr x1)))))) 25 (Int.toNat 751))) 18 (Int.toNat (wr x1))) (pm_up (pm_up σ 8 (Int.toNat (wr ((9 * (σ 16 (Int.toNat (wr x1)))) + (σ 17 (Int.toNat (wr x1)))))) ((σ 8 (Int.toNat (wr ((9 * (σ 16 (Int.toNat (wr x1)))) + (σ 17 (Int.toNat (wr x1))))))) - (480 * (σ 18 (Int.toNat (wr x1)))))) 21 (Int.toNat (wr x1)) ((pm_up σ 8 (Int.toNat (wr ((9 * (σ 16 (Int.toNat (wr x1)))) + (σ 17 (Int.toNat (wr x1)))))) ((σ 8 (Int.toNat (wr ((9 * (σ 16 (Int.toNat (wr x1)))) + (σ 17 (Int.toNat (wr x1))))))) - (480 * (σ 18 (Int.toNat (wr x1)))))) 25 (Int.toNat 751)))))))))))) else ((fX12_refuse (-3) σ).bind fun q26 => some ((1000000000 - q26.1), q26.2)))))))))
set_option maxHeartbeats 4000000 in
set_option maxRecDepth 100000 in
theorem tmX12_fill {x1 : Int} {σ : pm_M} {ρ : Int × pm_M} (h : fX12_fill x1 σ = some ρ) : pm_C mX12_fill 1 21 [pv_r 0, pv_i x1] LAYM σ (some (pv_i ρ.1)) LAYM ρ.2 := by
  refine pm_C.of (by decide) rfl (Nat.le_of_ble_eq_true rfl) ?_
  show pm_J mX12_fill 1 21 LAYM (some (pv_i ρ.1)) LAYM ρ.2 0 [some (pv_r 0), some (pv_i x1), none, none] [] LAYM σ
  unfold fX12_fill at h
  refine pr_iload_n dX12_fill_0 rfl ?_
  refine pr_aload_n dX12_fill_1 rfl ?_
  refine pr_getI dX12_fill_2 lk_X12_154 lm_0 rfl ?_
  obtain ⟨q1, e2, h⟩ := pm_bs h
  refine pr_callS (av := [pv_i x1, pv_i (σ 0 17)]) (S := []) dX12_fill_5 mk_X12_95 rfl rfl (Nat.le_of_ble_eq_true rfl) (by decide) (by decide) (Or.inl rfl) (tmX12_isIn e2) ?_
  refine pr_if_ne (tgt := 20) dX12_fill_8 rfl (by decide) (fun c_3 => ?_) (fun c_3 => ?_)
  · have h := pm_ng c_3 h
    refine pr_bipush dX12_fill_20 (by decide) ?_
    refine pr_aload_n dX12_fill_22 rfl ?_
    refine pr_getR dX12_fill_23 lk_X12_59 lm_0 rfl ?_
    refine pr_iload_n dX12_fill_26 rfl ?_
    obtain ⟨g_4, h⟩ := pm_gs h
    refine pr_iald dX12_fill_27 lm_16 rfl g_4 ?_
    refine pr_imul dX12_fill_28 ?_
    refine pr_aload_n dX12_fill_29 rfl ?_
    refine pr_getR dX12_fill_30 lk_X12_62 lm_0 rfl ?_
    refine pr_iload_n dX12_fill_33 rfl ?_
    obtain ⟨g_5, h⟩ := pm_gs h
    refine pr_iald dX12_fill_34 lm_17 rfl g_5 ?_
    refine pr_iadd dX12_fill_35 ?_
    refine pr_istore_n dX12_fill_36 (by decide) rfl ?_
    refine pr_aload_n dX12_fill_37 rfl ?_
    refine pr_getR dX12_fill_38 lk_X12_74 lm_0 rfl ?_
    refine pr_iload_n dX12_fill_41 rfl ?_
    obtain ⟨g_6, h⟩ := pm_gs h
    refine pr_iald dX12_fill_42 lm_21 rfl g_6 ?_
    refine pr_if_ge (tgt := 65) dX12_fill_43 rfl (by decide) (fun c_7 => ?_) (fun c_7 => ?_)
    · have h := pm_pos c_7 h
      refine pr_ldc dX12_fill_65 lkc_X12_157 ?_
      refine pr_aload_n dX12_fill_67 rfl ?_
      refine pr_bipush dX12_fill_68 (by decide) ?_
      obtain ⟨q8, e9, h⟩ := pm_bs h
      refine pr_callV (As := [pv_i (-3)]) (S := [pv_i 1000000000]) (t := 0) dX12_fill_70 mk_X12_103 lm_0 (ci := 12) (q := (RX12, TX12, 36)) rfl rfl rfl rfl (Nat.le_of_ble_eq_true rfl) (by decide) (by decide) (Or.inl rfl) (tmX12_refuse e9) ?_
      refine pr_isub dX12_fill_73 ?_
      have h := Option.some.inj h
      subst h
      exact pr_iret dX12_fill_74 rfl
    · have h := pm_ng c_7 h
      refine pr_aload_n dX12_fill_46 rfl ?_
      refine pr_getR dX12_fill_47 lk_X12_31 lm_0 rfl ?_
      refine pr_iload_n dX12_fill_50 rfl ?_
      obtain ⟨g_10, h⟩ := pm_gs h
      refine pr_iald dX12_fill_51 lm_8 rfl g_10 ?_
      refine pr_sipush dX12_fill_52 (by decide) ?_
      refine pr_aload_n dX12_fill_55 rfl ?_
      refine pr_getR dX12_fill_56 lk_X12_65 lm_0 rfl ?_
      refine pr_iload_n dX12_fill_59 rfl ?_
      obtain ⟨g_11, h⟩ := pm_gs h
      refine pr_iald dX12_fill_60 lm_18 rfl g_11 ?_
      refine pr_imul dX12_fill_61 ?_
      refine pr_icmp_ge (tgt := 75) dX12_fill_62 rfl rfl (by decide) (fun c_12 => ?_) (fun c_12 => ?_)
      · have h := pm_pos c_12 h
        refine pr_aload_n dX12_fill_75 rfl ?_
        refine pr_getR dX12_fill_76 lk_X12_31 lm_0 rfl ?_
        refine pr_iload_n dX12_fill_79 rfl ?_
        refine pr_dup2 dX12_fill_80 rfl rfl ?_
        obtain ⟨g_13, h⟩ := pm_gs h
        refine pr_iald dX12_fill_81 lm_8 rfl g_13 ?_
        refine pr_sipush dX12_fill_82 (by decide) ?_
        refine pr_aload_n dX12_fill_85 rfl ?_
        refine pr_getR dX12_fill_86 lk_X12_65 lm_0 rfl ?_
        refine pr_iload_n dX12_fill_89 rfl ?_
        obtain ⟨g_14, h⟩ := pm_gs h
        refine pr_iald dX12_fill_90 lm_18 rfl g_14 ?_
        refine pr_imul dX12_fill_91 ?_
        refine pr_isub dX12_fill_92 ?_
        obtain ⟨g_15, h⟩ := pm_gs h
        refine pr_iast dX12_fill_93 lm_8 rfl g_15 ?_
        refine pr_aload_n dX12_fill_94 rfl ?_
        refine pr_getR dX12_fill_95 lk_X12_74 lm_0 rfl ?_
        refine pr_iload_n dX12_fill_98 rfl ?_
        refine pr_aload_n dX12_fill_99 rfl ?_
        refine pr_getR dX12_fill_100 lk_X12_86 lm_0 rfl ?_
        refine pr_sipush dX12_fill_103 (by decide) ?_
        refine pr_iald dX12_fill_106 lm_25 (wr_eq (by decide) (by decide)) ⟨by decide, by decide⟩ ?_
        obtain ⟨g_16, h⟩ := pm_gs h
        refine pr_iast dX12_fill_107 lm_21 rfl g_16 ?_
        refine pr_aload_n dX12_fill_108 rfl ?_
        refine pr_getR dX12_fill_109 lk_X12_65 lm_0 rfl ?_
        refine pr_iload_n dX12_fill_112 rfl ?_
        obtain ⟨g_17, h⟩ := pm_gs h
        refine pr_iald dX12_fill_113 lm_18 rfl g_17 ?_
        refine pr_aload_n dX12_fill_114 rfl ?_
        obtain ⟨q18, e19, h⟩ := pm_bs h
        refine pr_callV (As := []) (S := [pv_i ((pm_up (pm_up σ 8 (Int.toNat (wr ((9 * (σ 16 (Int.toNat (wr x1)))) + (σ 17 (Int.toNat (wr x1)))))) ((σ 8 (Int.toNat (wr ((9 * (σ 16 (Int.toNat (wr x1)))) + (σ 17 (Int.toNat (wr x1))))))) - (480 * (σ 18 (Int.toNat (wr x1)))))) 21 (Int.toNat (wr x1)) ((pm_up σ 8 (Int.toNat (wr ((9 * (σ 16 (Int.toNat (wr x1)))) + (σ 17 (Int.toNat (wr x1)))))) ((σ 8 (Int.toNat (wr ((9 * (σ 16 (Int.toNat (wr x1)))) + (σ 17 (Int.toNat (wr x1))))))) - (480 * (σ 18 (Int.toNat (wr x1)))))) 25 (Int.toNat 751))) 18 (Int.toNat (wr x1)))]) (t := 0) dX12_fill_115 mk_X12_158 lm_0 (ci := 12) (q := (RX12, TX12, 36)) rfl rfl rfl rfl (Nat.le_of_ble_eq_true rfl) (by decide) (by decide) (Or.inl rfl) (tmX12_today e19) ?_
        refine pr_aload_n dX12_fill_118 rfl ?_
        refine pr_getR dX12_fill_119 lk_X12_68 lm_0 rfl ?_
        refine pr_iload_n dX12_fill_122 rfl ?_
        obtain ⟨g_20, h⟩ := pm_gs h
        refine pr_iald dX12_fill_123 lm_19 rfl g_20 ?_
        refine pr_icmp_le (tgt := 138) dX12_fill_124 rfl rfl (by decide) (fun c_21 => ?_) (fun c_21 => ?_)
        · have h := pm_pos c_21 h
          refine pr_aload_n dX12_fill_138 rfl ?_
          refine pr_getR dX12_fill_139 lk_X12_71 lm_0 rfl ?_
          refine pr_iload_n dX12_fill_142 rfl ?_
          obtain ⟨g_22, h⟩ := pm_gs h
          refine pr_iald dX12_fill_143 lm_20 rfl g_22 ?_
          refine pr_weak (L2 := [some (pv_r 0), some (pv_i x1), none, none]) ⟨Or.inr rfl, Or.inr rfl, Or.inl rfl, Or.inl rfl, trivial⟩ ?_
          exact tjX12_fill_144 h
        · have h := pm_ng c_21 h
          refine pr_aload_n dX12_fill_127 rfl ?_
          refine pr_getR dX12_fill_128 lk_X12_71 lm_0 rfl ?_
          refine pr_iload_n dX12_fill_131 rfl ?_
          obtain ⟨g_25, h⟩ := pm_gs h
          refine pr_iald dX12_fill_132 lm_20 rfl g_25 ?_
          refine pr_iconst dX12_fill_133 ?_
          refine pr_idiv dX12_fill_134 rfl (wr_eq (by decide) (by decide)) (by decide) ?_
          refine pr_goto (tgt := 144) dX12_fill_135 (by decide) ?_
          refine pr_weak (L2 := [some (pv_r 0), some (pv_i x1), none, none]) ⟨Or.inr rfl, Or.inr rfl, Or.inl rfl, Or.inl rfl, trivial⟩ ?_
          exact tjX12_fill_144 h
      · have h := pm_ng c_12 h
        refine pr_ldc dX12_fill_65 lkc_X12_157 ?_
        refine pr_aload_n dX12_fill_67 rfl ?_
        refine pr_bipush dX12_fill_68 (by decide) ?_
        obtain ⟨q26, e27, h⟩ := pm_bs h
        refine pr_callV (As := [pv_i (-3)]) (S := [pv_i 1000000000]) (t := 0) dX12_fill_70 mk_X12_103 lm_0 (ci := 12) (q := (RX12, TX12, 36)) rfl rfl rfl rfl (Nat.le_of_ble_eq_true rfl) (by decide) (by decide) (Or.inl rfl) (tmX12_refuse e27) ?_
        refine pr_isub dX12_fill_73 ?_
        have h := Option.some.inj h
        subst h
        exact pr_iret dX12_fill_74 rfl
  · have h := pm_pos c_3 h
    refine pr_ldc dX12_fill_11 lkc_X12_157 ?_
    refine pr_aload_n dX12_fill_13 rfl ?_
    refine pr_iconst dX12_fill_14 ?_
    obtain ⟨q28, e29, h⟩ := pm_bs h
    refine pr_callV (As := [pv_i (-1)]) (S := [pv_i 1000000000]) (t := 0) dX12_fill_15 mk_X12_103 lm_0 (ci := 12) (q := (RX12, TX12, 36)) rfl rfl rfl rfl (Nat.le_of_ble_eq_true rfl) (by decide) (by decide) (Or.inl rfl) (tmX12_refuse e29) ?_
    refine pr_isub dX12_fill_18 ?_
    have h := Option.some.inj h
    subst h
    exact pr_iret dX12_fill_19 rfl
def bdX12_bests_27 (y1 : Int) (y2 : Int) (y3 : Int) (z4 : Int) (σ : pm_M) : Option ((Int × pm_M) ⊕ (Int × pm_M)) :=
  if (wr z4) ≤ 0 then (some (.inl (z4, σ))) else (pm_g (0 ≤ (wr (z4 - 1)) ∧ (wr (z4 - 1)) < 12) (pm_g (0 ≤ (wr (σ 27 (Int.toNat (wr (z4 - 1))))) ∧ (wr (σ 27 (Int.toNat (wr (z4 - 1))))) < 12) (pm_g (0 ≤ (wr y3) ∧ (wr y3) < 12) (if (wr (σ 19 (Int.toNat (wr (σ 27 (Int.toNat (wr (z4 - 1)))))))) ≤ (wr (σ 19 (Int.toNat (wr y3)))) then (some (.inl (z4, σ))) else (pm_g (0 ≤ (wr (z4 - 1)) ∧ (wr (z4 - 1)) < 12) (pm_g (0 ≤ (wr z4) ∧ (wr z4) < 12) (some (.inr ((z4 + (-1)), (pm_up σ 27 (Int.toNat (wr z4)) (σ 27 (Int.toNat (wr (z4 - 1))))))))))))))
set_option maxHeartbeats 4000000 in
set_option maxRecDepth 100000 in
theorem tbX12_bests_27 {lay0 lay' : List pm_S} {r : Option pm_V} {σ' : pm_M} (y1 : Int) (y2 : Int) (y3 : Int) : ∀ (a : Int × pm_M) (e : (Int × pm_M) ⊕ (Int × pm_M)), (fun a => bdX12_bests_27 y1 y2 y3 a.1 a.2) a = some e → (∀ a, e = .inr a → (fun a => pm_J mX12_bests 1 22 lay0 r lay' σ' 27 [some (pv_r 0), some (pv_i y1), some (pv_i y2), some (pv_i y3), some (pv_i a.1), none, none, none, none, none, none, none, none, none] [] LAYM a.2) a) → (∀ a, e = .inl a → (fun a => pm_J mX12_bests 1 22 lay0 r lay' σ' 77 [some (pv_r 0), some (pv_i y1), some (pv_i y2), some (pv_i y3), some (pv_i a.1), none, none, none, none, none, none, none, none, none] [] LAYM a.2) a) → (fun a => pm_J mX12_bests 1 22 lay0 r lay' σ' 27 [some (pv_r 0), some (pv_i y1), some (pv_i y2), some (pv_i y3), some (pv_i a.1), none, none, none, none, none, none, none, none, none] [] LAYM a.2) a := by
  intro a e h hc hx
  obtain ⟨z4, σ⟩ := a
  have h : bdX12_bests_27 y1 y2 y3 z4 σ = some e := h
  unfold bdX12_bests_27 at h
  show pm_J mX12_bests 1 22 lay0 r lay' σ' 27 [some (pv_r 0), some (pv_i y1), some (pv_i y2), some (pv_i y3), some (pv_i z4), none, none, none, none, none, none, none, none, none] [] LAYM σ
  refine pr_iload dX12_bests_27 rfl ?_
  refine pr_if_le (tgt := 77) dX12_bests_29 rfl (by decide) (fun c_4 => ?_) (fun c_4 => ?_)
  · have h := pm_pos c_4 h
    refine pr_weak (L2 := [some (pv_r 0), some (pv_i y1), some (pv_i y2), some (pv_i y3), some (pv_i z4), none, none, none, none, none, none, none, none, none]) ⟨Or.inr rfl, Or.inr rfl, Or.inr rfl, Or.inr rfl, Or.inr rfl, Or.inl rfl, Or.inl rfl, Or.inl rfl, Or.inl rfl, Or.inl rfl, Or.inl rfl, Or.inl rfl, Or.inl rfl, Or.inl rfl, trivial⟩ ?_
    exact hx (z4, σ) (Option.some.inj h).symm
  · have h := pm_ng c_4 h
    refine pr_aload_n dX12_bests_32 rfl ?_
    refine pr_getR dX12_bests_33 lk_X12_68 lm_0 rfl ?_
    refine pr_aload_n dX12_bests_36 rfl ?_
    refine pr_getR dX12_bests_37 lk_X12_92 lm_0 rfl ?_
    refine pr_iload dX12_bests_40 rfl ?_
    refine pr_iconst dX12_bests_42 ?_
    refine pr_isub dX12_bests_43 ?_
    obtain ⟨g_5, h⟩ := pm_gs h
    refine pr_iald dX12_bests_44 lm_27 rfl g_5 ?_
    obtain ⟨g_6, h⟩ := pm_gs h
    refine pr_iald dX12_bests_45 lm_19 rfl g_6 ?_
    refine pr_aload_n dX12_bests_46 rfl ?_
    refine pr_getR dX12_bests_47 lk_X12_68 lm_0 rfl ?_
    refine pr_iload_n dX12_bests_50 rfl ?_
    obtain ⟨g_7, h⟩ := pm_gs h
    refine pr_iald dX12_bests_51 lm_19 rfl g_7 ?_
    refine pr_icmp_le (tgt := 77) dX12_bests_52 rfl rfl (by decide) (fun c_8 => ?_) (fun c_8 => ?_)
    · have h := pm_pos c_8 h
      refine pr_weak (L2 := [some (pv_r 0), some (pv_i y1), some (pv_i y2), some (pv_i y3), some (pv_i z4), none, none, none, none, none, none, none, none, none]) ⟨Or.inr rfl, Or.inr rfl, Or.inr rfl, Or.inr rfl, Or.inr rfl, Or.inl rfl, Or.inl rfl, Or.inl rfl, Or.inl rfl, Or.inl rfl, Or.inl rfl, Or.inl rfl, Or.inl rfl, Or.inl rfl, trivial⟩ ?_
      exact hx (z4, σ) (Option.some.inj h).symm
    · have h := pm_ng c_8 h
      refine pr_aload_n dX12_bests_55 rfl ?_
      refine pr_getR dX12_bests_56 lk_X12_92 lm_0 rfl ?_
      refine pr_iload dX12_bests_59 rfl ?_
      refine pr_aload_n dX12_bests_61 rfl ?_
      refine pr_getR dX12_bests_62 lk_X12_92 lm_0 rfl ?_
      refine pr_iload dX12_bests_65 rfl ?_
      refine pr_iconst dX12_bests_67 ?_
      refine pr_isub dX12_bests_68 ?_
      obtain ⟨g_9, h⟩ := pm_gs h
      refine pr_iald dX12_bests_69 lm_27 rfl g_9 ?_
      obtain ⟨g_10, h⟩ := pm_gs h
      refine pr_iast dX12_bests_70 lm_27 rfl g_10 ?_
      refine pr_iinc dX12_bests_71 rfl (by decide) rfl ?_
      refine pr_goto (tgt := 27) dX12_bests_74 (by decide) ?_
      refine pr_weak (L2 := [some (pv_r 0), some (pv_i y1), some (pv_i y2), some (pv_i y3), some (pv_i (z4 + (-1))), none, none, none, none, none, none, none, none, none]) ⟨Or.inr rfl, Or.inr rfl, Or.inr rfl, Or.inr rfl, Or.inr rfl, Or.inl rfl, Or.inl rfl, Or.inl rfl, Or.inl rfl, Or.inl rfl, Or.inl rfl, Or.inl rfl, Or.inl rfl, Or.inl rfl, trivial⟩ ?_
      exact hc ((z4 + (-1)), (pm_up σ 27 (Int.toNat (wr z4)) (σ 27 (Int.toNat (wr (z4 - 1)))))) (Option.some.inj h).symm
def bdX12_bests_4 (y1 : Int) (z2 : Int) (z3 : Int) (σ : pm_M) : Option ((Int × Int × pm_M) ⊕ (Int × Int × pm_M)) :=
  if (wr (σ 0 17)) ≤ (wr z3) then (some (.inl (z2, z3, σ))) else (pm_g (0 ≤ (wr z3) ∧ (wr z3) < 12) (if (wr (σ 21 (Int.toNat (wr z3)))) < 0 then ((pm_it (fun a => bdX12_bests_27 y1 z2 z3 a.1 a.2) pm_fuel (z2, σ)).bind fun v11 => pm_g (0 ≤ (wr v11.1) ∧ (wr v11.1) < 12) (some (.inr ((z2 + 1), (z3 + 1), (pm_up v11.2 27 (Int.toNat (wr v11.1)) z3))))) else (some (.inr (z2, (z3 + 1), σ)))))
set_option maxHeartbeats 4000000 in
set_option maxRecDepth 100000 in
theorem tbX12_bests_4 {lay0 lay' : List pm_S} {r : Option pm_V} {σ' : pm_M} (y1 : Int) : ∀ (a : Int × Int × pm_M) (e : (Int × Int × pm_M) ⊕ (Int × Int × pm_M)), (fun a => bdX12_bests_4 y1 a.1 a.2.1 a.2.2) a = some e → (∀ a, e = .inr a → (fun a => pm_J mX12_bests 1 22 lay0 r lay' σ' 4 [some (pv_r 0), some (pv_i y1), some (pv_i a.1), some (pv_i a.2.1), none, none, none, none, none, none, none, none, none, none] [] LAYM a.2.2) a) → (∀ a, e = .inl a → (fun a => pm_J mX12_bests 1 22 lay0 r lay' σ' 94 [some (pv_r 0), some (pv_i y1), some (pv_i a.1), none, none, none, none, none, none, none, none, none, none, none] [] LAYM a.2.2) a) → (fun a => pm_J mX12_bests 1 22 lay0 r lay' σ' 4 [some (pv_r 0), some (pv_i y1), some (pv_i a.1), some (pv_i a.2.1), none, none, none, none, none, none, none, none, none, none] [] LAYM a.2.2) a := by
  intro a e h hc hx
  obtain ⟨z2, z3, σ⟩ := a
  have h : bdX12_bests_4 y1 z2 z3 σ = some e := h
  unfold bdX12_bests_4 at h
  show pm_J mX12_bests 1 22 lay0 r lay' σ' 4 [some (pv_r 0), some (pv_i y1), some (pv_i z2), some (pv_i z3), none, none, none, none, none, none, none, none, none, none] [] LAYM σ
  refine pr_iload_n dX12_bests_4 rfl ?_
  refine pr_aload_n dX12_bests_5 rfl ?_
  refine pr_getI dX12_bests_6 lk_X12_154 lm_0 rfl ?_
  refine pr_icmp_ge (tgt := 94) dX12_bests_9 rfl rfl (by decide) (fun c_1 => ?_) (fun c_1 => ?_)
  · have h := pm_pos c_1 h
    refine pr_weak (L2 := [some (pv_r 0), some (pv_i y1), some (pv_i z2), none, none, none, none, none, none, none, none, none, none, none]) ⟨Or.inr rfl, Or.inr rfl, Or.inr rfl, Or.inl rfl, Or.inl rfl, Or.inl rfl, Or.inl rfl, Or.inl rfl, Or.inl rfl, Or.inl rfl, Or.inl rfl, Or.inl rfl, Or.inl rfl, Or.inl rfl, trivial⟩ ?_
    exact hx (z2, z3, σ) (Option.some.inj h).symm
  · have h := pm_ng c_1 h
    refine pr_aload_n dX12_bests_12 rfl ?_
    refine pr_getR dX12_bests_13 lk_X12_74 lm_0 rfl ?_
    refine pr_iload_n dX12_bests_16 rfl ?_
    obtain ⟨g_2, h⟩ := pm_gs h
    refine pr_iald dX12_bests_17 lm_21 rfl g_2 ?_
    refine pr_if_lt (tgt := 24) dX12_bests_18 rfl (by decide) (fun c_3 => ?_) (fun c_3 => ?_)
    · have h := pm_pos c_3 h
      refine pr_iload_n dX12_bests_24 rfl ?_
      refine pr_istore dX12_bests_25 (by decide) rfl ?_
      obtain ⟨v11, e12, h⟩ := pm_bs h
      refine pr_weak (L2 := [some (pv_r 0), some (pv_i y1), some (pv_i z2), some (pv_i z3), some (pv_i z2), none, none, none, none, none, none, none, none, none]) ⟨Or.inr rfl, Or.inr rfl, Or.inr rfl, Or.inr rfl, Or.inr rfl, Or.inl rfl, Or.inl rfl, Or.inl rfl, Or.inl rfl, Or.inl rfl, Or.inl rfl, Or.inl rfl, Or.inl rfl, Or.inl rfl, trivial⟩ ?_
      refine pm_it_J (α := Int × pm_M) (β := Int × pm_M) (f := fun a => bdX12_bests_27 y1 z2 z3 a.1 a.2) (P := fun a => pm_J mX12_bests 1 22 lay0 r lay' σ' 27 [some (pv_r 0), some (pv_i y1), some (pv_i z2), some (pv_i z3), some (pv_i a.1), none, none, none, none, none, none, none, none, none] [] LAYM a.2) (Rx := fun a => pm_J mX12_bests 1 22 lay0 r lay' σ' 77 [some (pv_r 0), some (pv_i y1), some (pv_i z2), some (pv_i z3), some (pv_i a.1), none, none, none, none, none, none, none, none, none] [] LAYM a.2) (tbX12_bests_27 y1 z2 z3) pm_fuel (z2, σ) v11 e12 ?_
      show pm_J mX12_bests 1 22 lay0 r lay' σ' 77 [some (pv_r 0), some (pv_i y1), some (pv_i z2), some (pv_i z3), some (pv_i v11.1), none, none, none, none, none, none, none, none, none] [] LAYM v11.2
      refine pr_aload_n dX12_bests_77 rfl ?_
      refine pr_getR dX12_bests_78 lk_X12_92 lm_0 rfl ?_
      refine pr_iload dX12_bests_81 rfl ?_
      refine pr_iload_n dX12_bests_83 rfl ?_
      obtain ⟨g_13, h⟩ := pm_gs h
      refine pr_iast dX12_bests_84 lm_27 rfl g_13 ?_
      refine pr_iinc dX12_bests_85 rfl (by decide) rfl ?_
      refine pr_iinc dX12_bests_88 rfl (by decide) rfl ?_
      refine pr_goto (tgt := 4) dX12_bests_91 (by decide) ?_
      refine pr_weak (L2 := [some (pv_r 0), some (pv_i y1), some (pv_i (z2 + 1)), some (pv_i (z3 + 1)), none, none, none, none, none, none, none, none, none, none]) ⟨Or.inr rfl, Or.inr rfl, Or.inr rfl, Or.inr rfl, Or.inl rfl, Or.inl rfl, Or.inl rfl, Or.inl rfl, Or.inl rfl, Or.inl rfl, Or.inl rfl, Or.inl rfl, Or.inl rfl, Or.inl rfl, trivial⟩ ?_
      exact hc ((z2 + 1), (z3 + 1), (pm_up v11.2 27 (Int.toNat (wr v11.1)) z3)) (Option.some.inj h).symm
    · have h := pm_ng c_3 h
      refine pr_goto (tgt := 88) dX12_bests_21 (by decide) ?_
      refine pr_iinc dX12_bests_88 rfl (by decide) rfl ?_
      refine pr_goto (tgt := 4) dX12_bests_91 (by decide) ?_
      refine pr_weak (L2 := [some (pv_r 0), some (pv_i y1), some (pv_i z2), some (pv_i (z3 + 1)), none, none, none, none, none, none, none, none, none, none]) ⟨Or.inr rfl, Or.inr rfl, Or.inr rfl, Or.inr rfl, Or.inl rfl, Or.inl rfl, Or.inl rfl, Or.inl rfl, Or.inl rfl, Or.inl rfl, Or.inl rfl, Or.inl rfl, Or.inl rfl, Or.inl rfl, trivial⟩ ?_
      exact hc (z2, (z3 + 1), σ) (Option.some.inj h).symm
def jnX12_bests_237l160 (y1 : Int) (y2 : Int) (y4 : Int) (y5 : Int) (w6 : Int) (w7 : Int) (w8 : Int) (w9 : Int) (w12 : Int) (w13 : Int) (u0 : Int) (σ : pm_M) : Option ((Int × Int × Int × Int × Int × Int) ⊕ (Int × Int × Int × Int × Int × Int)) :=
  pm_g (0 ≤ (wr w13) ∧ (wr w13) < 12) (pm_g (0 ≤ (wr w13) ∧ (wr w13) < 12) (some (.inr ((w6 + ((σ 20 (Int.toNat (wr w13))) * (σ 18 (Int.toNat (wr w13))))), (pm_or w7 (pm_shl 1 w13)), (w8 + 1), w9, u0, (w12 + 1)))))
set_option maxHeartbeats 4000000 in
set_option maxRecDepth 100000 in
theorem tjX12_bests_237l160 {lay0 lay' : List pm_S} {r : Option pm_V} {σ' : pm_M} {y1 : Int} {y2 : Int} {y4 : Int} {y5 : Int} {w6 : Int} {w7 : Int} {w8 : Int} {w9 : Int} {w12 : Int} {w13 : Int} {u0 : Int} {σ : pm_M} {e : (Int × Int × Int × Int × Int × Int) ⊕ (Int × Int × Int × Int × Int × Int)} (h : jnX12_bests_237l160 y1 y2 y4 y5 w6 w7 w8 w9 w12 w13 u0 σ = some e) (hc : ∀ a, e = .inr a → (fun a => pm_J mX12_bests 1 22 lay0 r lay' σ' 160 [some (pv_r 0), some (pv_i y1), some (pv_i y2), none, some (pv_i y4), some (pv_i y5), some (pv_i a.1), some (pv_i a.2.1), some (pv_i a.2.2.1), some (pv_l a.2.2.2.1), none, some (pv_i a.2.2.2.2.1), some (pv_i a.2.2.2.2.2), none] [] LAYM σ) a) (hx : ∀ a, e = .inl a → (fun a => pm_J mX12_bests 1 22 lay0 r lay' σ' 277 [some (pv_r 0), some (pv_i y1), some (pv_i y2), none, some (pv_i y4), some (pv_i y5), some (pv_i a.1), some (pv_i a.2.1), some (pv_i a.2.2.1), none, none, some (pv_i a.2.2.2.2.1), none, none] [] LAYM σ) a) : pm_J mX12_bests 1 22 lay0 r lay' σ' 237 [some (pv_r 0), some (pv_i y1), some (pv_i y2), none, some (pv_i y4), some (pv_i y5), some (pv_i w6), some (pv_i w7), some (pv_i w8), some (pv_l w9), none, none, some (pv_i w12), some (pv_i w13)] [pv_i u0] LAYM σ := by
  unfold jnX12_bests_237l160 at h
  refine pr_istore dX12_bests_237 (by decide) rfl ?_
  refine pr_iload dX12_bests_239 rfl ?_
  refine pr_aload_n dX12_bests_241 rfl ?_
  refine pr_getR dX12_bests_242 lk_X12_71 lm_0 rfl ?_
  refine pr_iload dX12_bests_245 rfl ?_
  obtain ⟨g_26, h⟩ := pm_gs h
  refine pr_iald dX12_bests_247 lm_20 rfl g_26 ?_
  refine pr_aload_n dX12_bests_248 rfl ?_
  refine pr_getR dX12_bests_249 lk_X12_65 lm_0 rfl ?_
  refine pr_iload dX12_bests_252 rfl ?_
  obtain ⟨g_27, h⟩ := pm_gs h
  refine pr_iald dX12_bests_254 lm_18 rfl g_27 ?_
  refine pr_imul dX12_bests_255 ?_
  refine pr_iadd dX12_bests_256 ?_
  refine pr_istore dX12_bests_257 (by decide) rfl ?_
  refine pr_iload dX12_bests_259 rfl ?_
  refine pr_iconst dX12_bests_261 ?_
  refine pr_iload dX12_bests_262 rfl ?_
  refine pr_ishl dX12_bests_264 ?_
  refine pr_ior dX12_bests_265 ?_
  refine pr_istore dX12_bests_266 (by decide) rfl ?_
  refine pr_iinc dX12_bests_268 rfl (by decide) rfl ?_
  refine pr_iinc dX12_bests_271 rfl (by decide) rfl ?_
  refine pr_goto (tgt := 160) dX12_bests_274 (by decide) ?_
  refine pr_weak (L2 := [some (pv_r 0), some (pv_i y1), some (pv_i y2), none, some (pv_i y4), some (pv_i y5), some (pv_i (w6 + ((σ 20 (Int.toNat (wr w13))) * (σ 18 (Int.toNat (wr w13)))))), some (pv_i (pm_or w7 (pm_shl 1 w13))), some (pv_i (w8 + 1)), some (pv_l w9), none, some (pv_i u0), some (pv_i (w12 + 1)), none]) ⟨Or.inr rfl, Or.inr rfl, Or.inr rfl, Or.inl rfl, Or.inr rfl, Or.inr rfl, Or.inr rfl, Or.inr rfl, Or.inr rfl, Or.inr rfl, Or.inl rfl, Or.inr rfl, Or.inr rfl, Or.inl rfl, trivial⟩ ?_
  exact hc ((w6 + ((σ 20 (Int.toNat (wr w13))) * (σ 18 (Int.toNat (wr w13))))), (pm_or w7 (pm_shl 1 w13)), (w8 + 1), w9, u0, (w12 + 1)) (Option.some.inj h).symm
def jnX12_bests_236l160 (y1 : Int) (y2 : Int) (y4 : Int) (y5 : Int) (w6 : Int) (w7 : Int) (w8 : Int) (w9 : Int) (w12 : Int) (w13 : Int) (σ : pm_M) : Option ((Int × Int × Int × Int × Int × Int) ⊕ (Int × Int × Int × Int × Int × Int)) :=
  jnX12_bests_237l160 y1 y2 y4 y5 w6 w7 w8 w9 w12 w13 0 σ
set_option maxHeartbeats 4000000 in
set_option maxRecDepth 100000 in
theorem tjX12_bests_236l160 {lay0 lay' : List pm_S} {r : Option pm_V} {σ' : pm_M} {y1 : Int} {y2 : Int} {y4 : Int} {y5 : Int} {w6 : Int} {w7 : Int} {w8 : Int} {w9 : Int} {w12 : Int} {w13 : Int} {σ : pm_M} {e : (Int × Int × Int × Int × Int × Int) ⊕ (Int × Int × Int × Int × Int × Int)} (h : jnX12_bests_236l160 y1 y2 y4 y5 w6 w7 w8 w9 w12 w13 σ = some e) (hc : ∀ a, e = .inr a → (fun a => pm_J mX12_bests 1 22 lay0 r lay' σ' 160 [some (pv_r 0), some (pv_i y1), some (pv_i y2), none, some (pv_i y4), some (pv_i y5), some (pv_i a.1), some (pv_i a.2.1), some (pv_i a.2.2.1), some (pv_l a.2.2.2.1), none, some (pv_i a.2.2.2.2.1), some (pv_i a.2.2.2.2.2), none] [] LAYM σ) a) (hx : ∀ a, e = .inl a → (fun a => pm_J mX12_bests 1 22 lay0 r lay' σ' 277 [some (pv_r 0), some (pv_i y1), some (pv_i y2), none, some (pv_i y4), some (pv_i y5), some (pv_i a.1), some (pv_i a.2.1), some (pv_i a.2.2.1), none, none, some (pv_i a.2.2.2.2.1), none, none] [] LAYM σ) a) : pm_J mX12_bests 1 22 lay0 r lay' σ' 236 [some (pv_r 0), some (pv_i y1), some (pv_i y2), none, some (pv_i y4), some (pv_i y5), some (pv_i w6), some (pv_i w7), some (pv_i w8), some (pv_l w9), none, none, some (pv_i w12), some (pv_i w13)] [] LAYM σ := by
  unfold jnX12_bests_236l160 at h
  refine pr_iconst dX12_bests_236 ?_
  refine pr_weak (L2 := [some (pv_r 0), some (pv_i y1), some (pv_i y2), none, some (pv_i y4), some (pv_i y5), some (pv_i w6), some (pv_i w7), some (pv_i w8), some (pv_l w9), none, none, some (pv_i w12), some (pv_i w13)]) ⟨Or.inr rfl, Or.inr rfl, Or.inr rfl, Or.inl rfl, Or.inr rfl, Or.inr rfl, Or.inr rfl, Or.inr rfl, Or.inr rfl, Or.inr rfl, Or.inl rfl, Or.inl rfl, Or.inr rfl, Or.inr rfl, trivial⟩ ?_
  exact tjX12_bests_237l160 h hc hx
def bdX12_bests_160 (y1 : Int) (y2 : Int) (y4 : Int) (y5 : Int) (σ : pm_M) (z6 : Int) (z7 : Int) (z8 : Int) (z9 : Int) (z11 : Int) (z12 : Int) : Option ((Int × Int × Int × Int × Int × Int) ⊕ (Int × Int × Int × Int × Int × Int)) :=
  if (wr y2) ≤ (wr z12) then (some (.inl (z6, z7, z8, z9, z11, z12))) else (if (wr (pm_and (pm_shr y5 z12) 1)) = 0 then (some (.inr (z6, z7, z8, z9, z11, (z12 + 1)))) else (pm_g (0 ≤ (wr z12) ∧ (wr z12) < 12) (pm_g (0 ≤ (wr (σ 27 (Int.toNat (wr z12)))) ∧ (wr (σ 27 (Int.toNat (wr z12)))) < 12) (if (wr z11) = 0 then (jnX12_bests_236l160 y1 y2 y4 y5 z6 z7 z8 (z9 + (480 * (wr (σ 18 (Int.toNat (wr (σ 27 (Int.toNat (wr z12))))))))) z12 (σ 27 (Int.toNat (wr z12))) σ) else (pm_g (0 ≤ (wr (σ 27 (Int.toNat (wr z12)))) ∧ (wr (σ 27 (Int.toNat (wr z12)))) < 12) ((fX12_today σ).bind fun q29 => if 0 < (wr (pm_cmp (z9 + (480 * (wr (σ 18 (Int.toNat (wr (σ 27 (Int.toNat (wr z12))))))))) ((wr y1) * (wr ((σ 19 (Int.toNat (wr (σ 27 (Int.toNat (wr z12)))))) - q29))))) then (jnX12_bests_236l160 y1 y2 y4 y5 z6 z7 z8 (z9 + (480 * (wr (σ 18 (Int.toNat (wr (σ 27 (Int.toNat (wr z12))))))))) z12 (σ 27 (Int.toNat (wr z12))) σ) else (jnX12_bests_237l160 y1 y2 y4 y5 z6 z7 z8 (z9 + (480 * (wr (σ 18 (Int.toNat (wr (σ 27 (Int.toNat (wr z12))))))))) z12 (σ 27 (Int.toNat (wr z12))) 1 σ)))))))
set_option maxHeartbeats 4000000 in
set_option maxRecDepth 100000 in
theorem tbX12_bests_160 {lay0 lay' : List pm_S} {r : Option pm_V} {σ' : pm_M} (y1 : Int) (y2 : Int) (y4 : Int) (y5 : Int) (σ : pm_M) : ∀ (a : Int × Int × Int × Int × Int × Int) (e : (Int × Int × Int × Int × Int × Int) ⊕ (Int × Int × Int × Int × Int × Int)), (fun a => bdX12_bests_160 y1 y2 y4 y5 σ a.1 a.2.1 a.2.2.1 a.2.2.2.1 a.2.2.2.2.1 a.2.2.2.2.2) a = some e → (∀ a, e = .inr a → (fun a => pm_J mX12_bests 1 22 lay0 r lay' σ' 160 [some (pv_r 0), some (pv_i y1), some (pv_i y2), none, some (pv_i y4), some (pv_i y5), some (pv_i a.1), some (pv_i a.2.1), some (pv_i a.2.2.1), some (pv_l a.2.2.2.1), none, some (pv_i a.2.2.2.2.1), some (pv_i a.2.2.2.2.2), none] [] LAYM σ) a) → (∀ a, e = .inl a → (fun a => pm_J mX12_bests 1 22 lay0 r lay' σ' 277 [some (pv_r 0), some (pv_i y1), some (pv_i y2), none, some (pv_i y4), some (pv_i y5), some (pv_i a.1), some (pv_i a.2.1), some (pv_i a.2.2.1), none, none, some (pv_i a.2.2.2.2.1), none, none] [] LAYM σ) a) → (fun a => pm_J mX12_bests 1 22 lay0 r lay' σ' 160 [some (pv_r 0), some (pv_i y1), some (pv_i y2), none, some (pv_i y4), some (pv_i y5), some (pv_i a.1), some (pv_i a.2.1), some (pv_i a.2.2.1), some (pv_l a.2.2.2.1), none, some (pv_i a.2.2.2.2.1), some (pv_i a.2.2.2.2.2), none] [] LAYM σ) a := by
  intro a e h hc hx
  obtain ⟨z6, z7, z8, z9, z11, z12⟩ := a
  have h : bdX12_bests_160 y1 y2 y4 y5 σ z6 z7 z8 z9 z11 z12 = some e := h
  unfold bdX12_bests_160 at h
  show pm_J mX12_bests 1 22 lay0 r lay' σ' 160 [some (pv_r 0), some (pv_i y1), some (pv_i y2), none, some (pv_i y4), some (pv_i y5), some (pv_i z6), some (pv_i z7), some (pv_i z8), some (pv_l z9), none, some (pv_i z11), some (pv_i z12), none] [] LAYM σ
  refine pr_iload dX12_bests_160 rfl ?_
  refine pr_iload_n dX12_bests_162 rfl ?_
  refine pr_icmp_ge (tgt := 277) dX12_bests_163 rfl rfl (by decide) (fun c_21 => ?_) (fun c_21 => ?_)
  · have h := pm_pos c_21 h
    refine pr_weak (L2 := [some (pv_r 0), some (pv_i y1), some (pv_i y2), none, some (pv_i y4), some (pv_i y5), some (pv_i z6), some (pv_i z7), some (pv_i z8), none, none, some (pv_i z11), none, none]) ⟨Or.inr rfl, Or.inr rfl, Or.inr rfl, Or.inl rfl, Or.inr rfl, Or.inr rfl, Or.inr rfl, Or.inr rfl, Or.inr rfl, Or.inl rfl, Or.inl rfl, Or.inr rfl, Or.inl rfl, Or.inl rfl, trivial⟩ ?_
    exact hx (z6, z7, z8, z9, z11, z12) (Option.some.inj h).symm
  · have h := pm_ng c_21 h
    refine pr_iload dX12_bests_166 rfl ?_
    refine pr_iload dX12_bests_168 rfl ?_
    refine pr_ishr dX12_bests_170 ?_
    refine pr_iconst dX12_bests_171 ?_
    refine pr_iand dX12_bests_172 ?_
    refine pr_if_ne (tgt := 179) dX12_bests_173 rfl (by decide) (fun c_22 => ?_) (fun c_22 => ?_)
    · have h := pm_ng c_22 h
      refine pr_aload_n dX12_bests_179 rfl ?_
      refine pr_getR dX12_bests_180 lk_X12_92 lm_0 rfl ?_
      refine pr_iload dX12_bests_183 rfl ?_
      obtain ⟨g_23, h⟩ := pm_gs h
      refine pr_iald dX12_bests_185 lm_27 rfl g_23 ?_
      refine pr_istore dX12_bests_186 (by decide) rfl ?_
      refine pr_lload dX12_bests_188 rfl ?_
      refine pr_ldc2 dX12_bests_190 lkc_X12_171 ?_
      refine pr_aload_n dX12_bests_193 rfl ?_
      refine pr_getR dX12_bests_194 lk_X12_65 lm_0 rfl ?_
      refine pr_iload dX12_bests_197 rfl ?_
      obtain ⟨g_24, h⟩ := pm_gs h
      refine pr_iald dX12_bests_199 lm_18 rfl g_24 ?_
      refine pr_i2l dX12_bests_200 rfl ?_
      refine pr_lmul dX12_bests_201 ?_
      refine pr_ladd dX12_bests_202 ?_
      refine pr_lstore dX12_bests_203 (by decide) rfl ?_
      refine pr_iload dX12_bests_205 rfl ?_
      refine pr_if_eq (tgt := 236) dX12_bests_207 rfl (by decide) (fun c_25 => ?_) (fun c_25 => ?_)
      · have h := pm_pos c_25 h
        refine pr_weak (L2 := [some (pv_r 0), some (pv_i y1), some (pv_i y2), none, some (pv_i y4), some (pv_i y5), some (pv_i z6), some (pv_i z7), some (pv_i z8), some (pv_l (z9 + (480 * (wr (σ 18 (Int.toNat (wr (σ 27 (Int.toNat (wr z12)))))))))), none, none, some (pv_i z12), some (pv_i (σ 27 (Int.toNat (wr z12))))]) ⟨Or.inr rfl, Or.inr rfl, Or.inr rfl, Or.inl rfl, Or.inr rfl, Or.inr rfl, Or.inr rfl, Or.inr rfl, Or.inr rfl, Or.inr rfl, Or.inl rfl, Or.inl rfl, Or.inr rfl, Or.inr rfl, trivial⟩ ?_
        exact tjX12_bests_236l160 h hc hx
      · have h := pm_ng c_25 h
        refine pr_lload dX12_bests_210 rfl ?_
        refine pr_iload_n dX12_bests_212 rfl ?_
        refine pr_i2l dX12_bests_213 rfl ?_
        refine pr_aload_n dX12_bests_214 rfl ?_
        refine pr_getR dX12_bests_215 lk_X12_68 lm_0 rfl ?_
        refine pr_iload dX12_bests_218 rfl ?_
        obtain ⟨g_28, h⟩ := pm_gs h
        refine pr_iald dX12_bests_220 lm_19 rfl g_28 ?_
        refine pr_aload_n dX12_bests_221 rfl ?_
        obtain ⟨q29, e30, h⟩ := pm_bs h
        refine pr_callV (As := []) (S := [pv_i (σ 19 (Int.toNat (wr (σ 27 (Int.toNat (wr z12)))))), pv_l (wr y1), pv_l (z9 + (480 * (wr (σ 18 (Int.toNat (wr (σ 27 (Int.toNat (wr z12)))))))))]) (t := 0) dX12_bests_222 mk_X12_158 lm_0 (ci := 12) (q := (RX12, TX12, 36)) rfl rfl rfl rfl (Nat.le_of_ble_eq_true rfl) (by decide) (by decide) (Or.inl rfl) (tmX12_today e30) ?_
        refine pr_isub dX12_bests_225 ?_
        refine pr_i2l dX12_bests_226 rfl ?_
        refine pr_lmul dX12_bests_227 ?_
        refine pr_lcmp dX12_bests_228 ?_
        refine pr_if_gt (tgt := 236) dX12_bests_229 rfl (by decide) (fun c_31 => ?_) (fun c_31 => ?_)
        · have h := pm_pos c_31 h
          refine pr_weak (L2 := [some (pv_r 0), some (pv_i y1), some (pv_i y2), none, some (pv_i y4), some (pv_i y5), some (pv_i z6), some (pv_i z7), some (pv_i z8), some (pv_l (z9 + (480 * (wr (σ 18 (Int.toNat (wr (σ 27 (Int.toNat (wr z12)))))))))), none, none, some (pv_i z12), some (pv_i (σ 27 (Int.toNat (wr z12))))]) ⟨Or.inr rfl, Or.inr rfl, Or.inr rfl, Or.inl rfl, Or.inr rfl, Or.inr rfl, Or.inr rfl, Or.inr rfl, Or.inr rfl, Or.inr rfl, Or.inl rfl, Or.inl rfl, Or.inr rfl, Or.inr rfl, trivial⟩ ?_
          exact tjX12_bests_236l160 h hc hx
        · have h := pm_ng c_31 h
          refine pr_iconst dX12_bests_232 ?_
          refine pr_goto (tgt := 237) dX12_bests_233 (by decide) ?_
          refine pr_weak (L2 := [some (pv_r 0), some (pv_i y1), some (pv_i y2), none, some (pv_i y4), some (pv_i y5), some (pv_i z6), some (pv_i z7), some (pv_i z8), some (pv_l (z9 + (480 * (wr (σ 18 (Int.toNat (wr (σ 27 (Int.toNat (wr z12)))))))))), none, none, some (pv_i z12), some (pv_i (σ 27 (Int.toNat (wr z12))))]) ⟨Or.inr rfl, Or.inr rfl, Or.inr rfl, Or.inl rfl, Or.inr rfl, Or.inr rfl, Or.inr rfl, Or.inr rfl, Or.inr rfl, Or.inr rfl, Or.inl rfl, Or.inl rfl, Or.inr rfl, Or.inr rfl, trivial⟩ ?_
          exact tjX12_bests_237l160 h hc hx
    · have h := pm_pos c_22 h
      refine pr_goto (tgt := 271) dX12_bests_176 (by decide) ?_
      refine pr_iinc dX12_bests_271 rfl (by decide) rfl ?_
      refine pr_goto (tgt := 160) dX12_bests_274 (by decide) ?_
      refine pr_weak (L2 := [some (pv_r 0), some (pv_i y1), some (pv_i y2), none, some (pv_i y4), some (pv_i y5), some (pv_i z6), some (pv_i z7), some (pv_i z8), some (pv_l z9), none, some (pv_i z11), some (pv_i (z12 + 1)), none]) ⟨Or.inr rfl, Or.inr rfl, Or.inr rfl, Or.inl rfl, Or.inr rfl, Or.inr rfl, Or.inr rfl, Or.inr rfl, Or.inr rfl, Or.inr rfl, Or.inl rfl, Or.inr rfl, Or.inr rfl, Or.inl rfl, trivial⟩ ?_
      exact hc (z6, z7, z8, z9, z11, (z12 + 1)) (Option.some.inj h).symm
def jnX12_bests_326l134 (y1 : Int) (y2 : Int) (w5 : Int) (w6 : Int) (w7 : Int) (w8 : Int) (σ : pm_M) : Option ((Int × Int × pm_M) ⊕ (Int × Int × pm_M)) :=
  some (.inr (w8, (w5 + 1), (pm_up (pm_up σ 0 34 w7) 0 35 w6)))
set_option maxHeartbeats 4000000 in
set_option maxRecDepth 100000 in
theorem tjX12_bests_326l134 {lay0 lay' : List pm_S} {r : Option pm_V} {σ' : pm_M} {y1 : Int} {y2 : Int} {w5 : Int} {w6 : Int} {w7 : Int} {w8 : Int} {σ : pm_M} {e : (Int × Int × pm_M) ⊕ (Int × Int × pm_M)} (h : jnX12_bests_326l134 y1 y2 w5 w6 w7 w8 σ = some e) (hc : ∀ a, e = .inr a → (fun a => pm_J mX12_bests 1 22 lay0 r lay' σ' 134 [some (pv_r 0), some (pv_i y1), some (pv_i y2), none, some (pv_i a.1), some (pv_i a.2.1), none, none, none, none, none, none, none, none] [] LAYM a.2.2) a) (hx : ∀ a, e = .inl a → (fun a => pm_J mX12_bests 1 22 lay0 r lay' σ' 348 [none, none, none, none, none, none, none, none, none, none, none, none, none, none] [] LAYM a.2.2) a) : pm_J mX12_bests 1 22 lay0 r lay' σ' 326 [some (pv_r 0), some (pv_i y1), some (pv_i y2), none, none, some (pv_i w5), some (pv_i w6), some (pv_i w7), some (pv_i w8), none, none, none, none, none] [] LAYM σ := by
  unfold jnX12_bests_326l134 at h
  refine pr_aload_n dX12_bests_326 rfl ?_
  refine pr_iload dX12_bests_327 rfl ?_
  refine pr_putI dX12_bests_329 lp_X12_165 lm_0 rfl ?_
  refine pr_aload_n dX12_bests_332 rfl ?_
  refine pr_iload dX12_bests_333 rfl ?_
  refine pr_putI dX12_bests_335 lp_X12_168 lm_0 rfl ?_
  refine pr_iload dX12_bests_338 rfl ?_
  refine pr_istore dX12_bests_340 (by decide) rfl ?_
  refine pr_iinc dX12_bests_342 rfl (by decide) rfl ?_
  refine pr_goto (tgt := 134) dX12_bests_345 (by decide) ?_
  refine pr_weak (L2 := [some (pv_r 0), some (pv_i y1), some (pv_i y2), none, some (pv_i w8), some (pv_i (w5 + 1)), none, none, none, none, none, none, none, none]) ⟨Or.inr rfl, Or.inr rfl, Or.inr rfl, Or.inl rfl, Or.inr rfl, Or.inr rfl, Or.inl rfl, Or.inl rfl, Or.inl rfl, Or.inl rfl, Or.inl rfl, Or.inl rfl, Or.inl rfl, Or.inl rfl, trivial⟩ ?_
  exact hc (w8, (w5 + 1), (pm_up (pm_up σ 0 34 w7) 0 35 w6)) (Option.some.inj h).symm
def bdX12_bests_134 (y1 : Int) (y2 : Int) (z4 : Int) (z5 : Int) (σ : pm_M) : Option ((Int × Int × pm_M) ⊕ (Int × Int × pm_M)) :=
  if (wr (pm_shl 1 y2)) ≤ (wr z5) then (some (.inl (z4, z5, σ))) else ((pm_it (fun a => bdX12_bests_160 y1 y2 z4 z5 σ a.1 a.2.1 a.2.2.1 a.2.2.2.1 a.2.2.2.2.1 a.2.2.2.2.2) pm_fuel (0, 0, 0, 0, 1, 0)).bind fun v32 => if (wr v32.2.2.2.2.1) = 0 then (some (.inr (z4, (z5 + 1), σ))) else (if (wr v32.1) < (wr (σ 0 35)) then (some (.inr (z4, (z5 + 1), σ))) else (if (wr v32.1) = (wr (σ 0 35)) then (if (wr z4) < (wr v32.2.2.1) then (some (.inr (z4, (z5 + 1), σ))) else (if (wr v32.2.2.1) = (wr z4) then (if (wr v32.2.1) < (wr (σ 0 34)) then (jnX12_bests_326l134 y1 y2 z5 v32.1 v32.2.1 v32.2.2.1 σ) else (some (.inr (z4, (z5 + 1), σ)))) else (jnX12_bests_326l134 y1 y2 z5 v32.1 v32.2.1 v32.2.2.1 σ))) else (jnX12_bests_326l134 y1 y2 z5 v32.1 v32.2.1 v32.2.2.1 σ))))
set_option maxHeartbeats 4000000 in
set_option maxRecDepth 100000 in
theorem tbX12_bests_134 {lay0 lay' : List pm_S} {r : Option pm_V} {σ' : pm_M} (y1 : Int) (y2 : Int) : ∀ (a : Int × Int × pm_M) (e : (Int × Int × pm_M) ⊕ (Int × Int × pm_M)), (fun a => bdX12_bests_134 y1 y2 a.1 a.2.1 a.2.2) a = some e → (∀ a, e = .inr a → (fun a => pm_J mX12_bests 1 22 lay0 r lay' σ' 134 [some (pv_r 0), some (pv_i y1), some (pv_i y2), none, some (pv_i a.1), some (pv_i a.2.1), none, none, none, none, none, none, none, none] [] LAYM a.2.2) a) → (∀ a, e = .inl a → (fun a => pm_J mX12_bests 1 22 lay0 r lay' σ' 348 [none, none, none, none, none, none, none, none, none, none, none, none, none, none] [] LAYM a.2.2) a) → (fun a => pm_J mX12_bests 1 22 lay0 r lay' σ' 134 [some (pv_r 0), some (pv_i y1), some (pv_i y2), none, some (pv_i a.1), some (pv_i a.2.1), none, none, none, none, none, none, none, none] [] LAYM a.2.2) a := by
  intro a e h hc hx
  obtain ⟨z4, z5, σ⟩ := a
  have h : bdX12_bests_134 y1 y2 z4 z5 σ = some e := h
  unfold bdX12_bests_134 at h
  show pm_J mX12_bests 1 22 lay0 r lay' σ' 134 [some (pv_r 0), some (pv_i y1), some (pv_i y2), none, some (pv_i z4), some (pv_i z5), none, none, none, none, none, none, none, none] [] LAYM σ
  refine pr_iload dX12_bests_134 rfl ?_
  refine pr_iconst dX12_bests_136 ?_
  refine pr_iload_n dX12_bests_137 rfl ?_
  refine pr_ishl dX12_bests_138 ?_
  refine pr_icmp_ge (tgt := 348) dX12_bests_139 rfl rfl (by decide) (fun c_20 => ?_) (fun c_20 => ?_)
  · have h := pm_pos c_20 h
    refine pr_weak (L2 := [none, none, none, none, none, none, none, none, none, none, none, none, none, none]) ⟨Or.inl rfl, Or.inl rfl, Or.inl rfl, Or.inl rfl, Or.inl rfl, Or.inl rfl, Or.inl rfl, Or.inl rfl, Or.inl rfl, Or.inl rfl, Or.inl rfl, Or.inl rfl, Or.inl rfl, Or.inl rfl, trivial⟩ ?_
    exact hx (z4, z5, σ) (Option.some.inj h).symm
  · have h := pm_ng c_20 h
    refine pr_iconst dX12_bests_142 ?_
    refine pr_istore dX12_bests_143 (by decide) rfl ?_
    refine pr_iconst dX12_bests_145 ?_
    refine pr_istore dX12_bests_146 (by decide) rfl ?_
    refine pr_iconst dX12_bests_148 ?_
    refine pr_istore dX12_bests_149 (by decide) rfl ?_
    refine pr_lconst (z := 0) dX12_bests_151 (by decide) ?_
    refine pr_lstore dX12_bests_152 (by decide) rfl ?_
    refine pr_iconst dX12_bests_154 ?_
    refine pr_istore dX12_bests_155 (by decide) rfl ?_
    refine pr_iconst dX12_bests_157 ?_
    refine pr_istore dX12_bests_158 (by decide) rfl ?_
    obtain ⟨v32, e33, h⟩ := pm_bs h
    refine pr_weak (L2 := [some (pv_r 0), some (pv_i y1), some (pv_i y2), none, some (pv_i z4), some (pv_i z5), some (pv_i 0), some (pv_i 0), some (pv_i 0), some (pv_l 0), none, some (pv_i 1), some (pv_i 0), none]) ⟨Or.inr rfl, Or.inr rfl, Or.inr rfl, Or.inl rfl, Or.inr rfl, Or.inr rfl, Or.inr rfl, Or.inr rfl, Or.inr rfl, Or.inr rfl, Or.inl rfl, Or.inr rfl, Or.inr rfl, Or.inl rfl, trivial⟩ ?_
    refine pm_it_J (α := Int × Int × Int × Int × Int × Int) (β := Int × Int × Int × Int × Int × Int) (f := fun a => bdX12_bests_160 y1 y2 z4 z5 σ a.1 a.2.1 a.2.2.1 a.2.2.2.1 a.2.2.2.2.1 a.2.2.2.2.2) (P := fun a => pm_J mX12_bests 1 22 lay0 r lay' σ' 160 [some (pv_r 0), some (pv_i y1), some (pv_i y2), none, some (pv_i z4), some (pv_i z5), some (pv_i a.1), some (pv_i a.2.1), some (pv_i a.2.2.1), some (pv_l a.2.2.2.1), none, some (pv_i a.2.2.2.2.1), some (pv_i a.2.2.2.2.2), none] [] LAYM σ) (Rx := fun a => pm_J mX12_bests 1 22 lay0 r lay' σ' 277 [some (pv_r 0), some (pv_i y1), some (pv_i y2), none, some (pv_i z4), some (pv_i z5), some (pv_i a.1), some (pv_i a.2.1), some (pv_i a.2.2.1), none, none, some (pv_i a.2.2.2.2.1), none, none] [] LAYM σ) (tbX12_bests_160 y1 y2 z4 z5 σ) pm_fuel (0, 0, 0, 0, 1, 0) v32 e33 ?_
    show pm_J mX12_bests 1 22 lay0 r lay' σ' 277 [some (pv_r 0), some (pv_i y1), some (pv_i y2), none, some (pv_i z4), some (pv_i z5), some (pv_i v32.1), some (pv_i v32.2.1), some (pv_i v32.2.2.1), none, none, some (pv_i v32.2.2.2.2.1), none, none] [] LAYM σ
    refine pr_iload dX12_bests_277 rfl ?_
    refine pr_if_eq (tgt := 342) dX12_bests_279 rfl (by decide) (fun c_34 => ?_) (fun c_34 => ?_)
    · have h := pm_pos c_34 h
      refine pr_iinc dX12_bests_342 rfl (by decide) rfl ?_
      refine pr_goto (tgt := 134) dX12_bests_345 (by decide) ?_
      refine pr_weak (L2 := [some (pv_r 0), some (pv_i y1), some (pv_i y2), none, some (pv_i z4), some (pv_i (z5 + 1)), none, none, none, none, none, none, none, none]) ⟨Or.inr rfl, Or.inr rfl, Or.inr rfl, Or.inl rfl, Or.inr rfl, Or.inr rfl, Or.inl rfl, Or.inl rfl, Or.inl rfl, Or.inl rfl, Or.inl rfl, Or.inl rfl, Or.inl rfl, Or.inl rfl, trivial⟩ ?_
      exact hc (z4, (z5 + 1), σ) (Option.some.inj h).symm
    · have h := pm_ng c_34 h
      refine pr_iload dX12_bests_282 rfl ?_
      refine pr_aload_n dX12_bests_284 rfl ?_
      refine pr_getI dX12_bests_285 lk_X12_168 lm_0 rfl ?_
      refine pr_icmp_lt (tgt := 342) dX12_bests_288 rfl rfl (by decide) (fun c_35 => ?_) (fun c_35 => ?_)
      · have h := pm_pos c_35 h
        refine pr_iinc dX12_bests_342 rfl (by decide) rfl ?_
        refine pr_goto (tgt := 134) dX12_bests_345 (by decide) ?_
        refine pr_weak (L2 := [some (pv_r 0), some (pv_i y1), some (pv_i y2), none, some (pv_i z4), some (pv_i (z5 + 1)), none, none, none, none, none, none, none, none]) ⟨Or.inr rfl, Or.inr rfl, Or.inr rfl, Or.inl rfl, Or.inr rfl, Or.inr rfl, Or.inl rfl, Or.inl rfl, Or.inl rfl, Or.inl rfl, Or.inl rfl, Or.inl rfl, Or.inl rfl, Or.inl rfl, trivial⟩ ?_
        exact hc (z4, (z5 + 1), σ) (Option.some.inj h).symm
      · have h := pm_ng c_35 h
        refine pr_iload dX12_bests_291 rfl ?_
        refine pr_aload_n dX12_bests_293 rfl ?_
        refine pr_getI dX12_bests_294 lk_X12_168 lm_0 rfl ?_
        refine pr_icmp_ne (tgt := 326) dX12_bests_297 rfl rfl (by decide) (fun c_36 => ?_) (fun c_36 => ?_)
        · have h := pm_ng c_36 h
          refine pr_weak (L2 := [some (pv_r 0), some (pv_i y1), some (pv_i y2), none, none, some (pv_i z5), some (pv_i v32.1), some (pv_i v32.2.1), some (pv_i v32.2.2.1), none, none, none, none, none]) ⟨Or.inr rfl, Or.inr rfl, Or.inr rfl, Or.inl rfl, Or.inl rfl, Or.inr rfl, Or.inr rfl, Or.inr rfl, Or.inr rfl, Or.inl rfl, Or.inl rfl, Or.inl rfl, Or.inl rfl, Or.inl rfl, trivial⟩ ?_
          exact tjX12_bests_326l134 h hc hx
        · have h := pm_pos c_36 h
          refine pr_iload dX12_bests_300 rfl ?_
          refine pr_iload dX12_bests_302 rfl ?_
          refine pr_icmp_gt (tgt := 342) dX12_bests_304 rfl rfl (by decide) (fun c_37 => ?_) (fun c_37 => ?_)
          · have h := pm_pos c_37 h
            refine pr_iinc dX12_bests_342 rfl (by decide) rfl ?_
            refine pr_goto (tgt := 134) dX12_bests_345 (by decide) ?_
            refine pr_weak (L2 := [some (pv_r 0), some (pv_i y1), some (pv_i y2), none, some (pv_i z4), some (pv_i (z5 + 1)), none, none, none, none, none, none, none, none]) ⟨Or.inr rfl, Or.inr rfl, Or.inr rfl, Or.inl rfl, Or.inr rfl, Or.inr rfl, Or.inl rfl, Or.inl rfl, Or.inl rfl, Or.inl rfl, Or.inl rfl, Or.inl rfl, Or.inl rfl, Or.inl rfl, trivial⟩ ?_
            exact hc (z4, (z5 + 1), σ) (Option.some.inj h).symm
          · have h := pm_ng c_37 h
            refine pr_iload dX12_bests_307 rfl ?_
            refine pr_iload dX12_bests_309 rfl ?_
            refine pr_icmp_ne (tgt := 326) dX12_bests_311 rfl rfl (by decide) (fun c_38 => ?_) (fun c_38 => ?_)
            · have h := pm_ng c_38 h
              refine pr_weak (L2 := [some (pv_r 0), some (pv_i y1), some (pv_i y2), none, none, some (pv_i z5), some (pv_i v32.1), some (pv_i v32.2.1), some (pv_i v32.2.2.1), none, none, none, none, none]) ⟨Or.inr rfl, Or.inr rfl, Or.inr rfl, Or.inl rfl, Or.inl rfl, Or.inr rfl, Or.inr rfl, Or.inr rfl, Or.inr rfl, Or.inl rfl, Or.inl rfl, Or.inl rfl, Or.inl rfl, Or.inl rfl, trivial⟩ ?_
              exact tjX12_bests_326l134 h hc hx
            · have h := pm_pos c_38 h
              refine pr_iload dX12_bests_314 rfl ?_
              refine pr_aload_n dX12_bests_316 rfl ?_
              refine pr_getI dX12_bests_317 lk_X12_165 lm_0 rfl ?_
              refine pr_icmp_lt (tgt := 326) dX12_bests_320 rfl rfl (by decide) (fun c_39 => ?_) (fun c_39 => ?_)
              · have h := pm_pos c_39 h
                refine pr_weak (L2 := [some (pv_r 0), some (pv_i y1), some (pv_i y2), none, none, some (pv_i z5), some (pv_i v32.1), some (pv_i v32.2.1), some (pv_i v32.2.2.1), none, none, none, none, none]) ⟨Or.inr rfl, Or.inr rfl, Or.inr rfl, Or.inl rfl, Or.inl rfl, Or.inr rfl, Or.inr rfl, Or.inr rfl, Or.inr rfl, Or.inl rfl, Or.inl rfl, Or.inl rfl, Or.inl rfl, Or.inl rfl, trivial⟩ ?_
                exact tjX12_bests_326l134 h hc hx
              · have h := pm_ng c_39 h
                refine pr_goto (tgt := 342) dX12_bests_323 (by decide) ?_
                refine pr_iinc dX12_bests_342 rfl (by decide) rfl ?_
                refine pr_goto (tgt := 134) dX12_bests_345 (by decide) ?_
                refine pr_weak (L2 := [some (pv_r 0), some (pv_i y1), some (pv_i y2), none, some (pv_i z4), some (pv_i (z5 + 1)), none, none, none, none, none, none, none, none]) ⟨Or.inr rfl, Or.inr rfl, Or.inr rfl, Or.inl rfl, Or.inr rfl, Or.inr rfl, Or.inl rfl, Or.inl rfl, Or.inl rfl, Or.inl rfl, Or.inl rfl, Or.inl rfl, Or.inl rfl, Or.inl rfl, trivial⟩ ?_
                exact hc (z4, (z5 + 1), σ) (Option.some.inj h).symm
def fX12_bests (x1 : Int) (σ : pm_M) : Option (Int × pm_M) :=
  (pm_it (fun a => bdX12_bests_4 x1 a.1 a.2.1 a.2.2) pm_fuel (0, 0, σ)).bind fun v14 => if (wr v14.1) ≤ 8 then ((fX12_wrong x1 1 9600).bind fun q17 => if (wr q17) = 0 then ((pm_it (fun a => bdX12_bests_134 x1 v14.1 a.1 a.2.1 a.2.2) pm_fuel (0, 1, (pm_up (pm_up v14.2.2 0 34 0) 0 35 0))).bind fun v40 => some (0, v40.2.2)) else (some (q17, v14.2.2))) else (some ((-3), v14.2.2))
set_option maxHeartbeats 4000000 in
set_option maxRecDepth 100000 in
theorem tmX12_bests {x1 : Int} {σ : pm_M} {ρ : Int × pm_M} (h : fX12_bests x1 σ = some ρ) : pm_C mX12_bests 1 22 [pv_r 0, pv_i x1] LAYM σ (some (pv_i ρ.1)) LAYM ρ.2 := by
  refine pm_C.of (by decide) rfl (Nat.le_of_ble_eq_true rfl) ?_
  show pm_J mX12_bests 1 22 LAYM (some (pv_i ρ.1)) LAYM ρ.2 0 [some (pv_r 0), some (pv_i x1), none, none, none, none, none, none, none, none, none, none, none, none] [] LAYM σ
  unfold fX12_bests at h
  refine pr_iconst dX12_bests_0 ?_
  refine pr_istore_n dX12_bests_1 (by decide) rfl ?_
  refine pr_iconst dX12_bests_2 ?_
  refine pr_istore_n dX12_bests_3 (by decide) rfl ?_
  obtain ⟨v14, e15, h⟩ := pm_bs h
  refine pr_weak (L2 := [some (pv_r 0), some (pv_i x1), some (pv_i 0), some (pv_i 0), none, none, none, none, none, none, none, none, none, none]) ⟨Or.inr rfl, Or.inr rfl, Or.inr rfl, Or.inr rfl, Or.inl rfl, Or.inl rfl, Or.inl rfl, Or.inl rfl, Or.inl rfl, Or.inl rfl, Or.inl rfl, Or.inl rfl, Or.inl rfl, Or.inl rfl, trivial⟩ ?_
  refine pm_it_J (α := Int × Int × pm_M) (β := Int × Int × pm_M) (f := fun a => bdX12_bests_4 x1 a.1 a.2.1 a.2.2) (P := fun a => pm_J mX12_bests 1 22 LAYM (some (pv_i ρ.1)) LAYM ρ.2 4 [some (pv_r 0), some (pv_i x1), some (pv_i a.1), some (pv_i a.2.1), none, none, none, none, none, none, none, none, none, none] [] LAYM a.2.2) (Rx := fun a => pm_J mX12_bests 1 22 LAYM (some (pv_i ρ.1)) LAYM ρ.2 94 [some (pv_r 0), some (pv_i x1), some (pv_i a.1), none, none, none, none, none, none, none, none, none, none, none] [] LAYM a.2.2) (tbX12_bests_4 x1) pm_fuel (0, 0, σ) v14 e15 ?_
  show pm_J mX12_bests 1 22 LAYM (some (pv_i ρ.1)) LAYM ρ.2 94 [some (pv_r 0), some (pv_i x1), some (pv_i v14.1), none, none, none, none, none, none, none, none, none, none, none] [] LAYM v14.2.2
  refine pr_iload_n dX12_bests_94 rfl ?_
  refine pr_bipush dX12_bests_95 (by decide) ?_
  refine pr_icmp_le (tgt := 103) dX12_bests_97 rfl (wr_eq (by decide) (by decide)) (by decide) (fun c_16 => ?_) (fun c_16 => ?_)
  · have h := pm_pos c_16 h
    refine pr_iload_n dX12_bests_103 rfl ?_
    refine pr_iconst dX12_bests_104 ?_
    refine pr_sipush dX12_bests_105 (by decide) ?_
    obtain ⟨q17, e18, h⟩ := pm_bs h
    refine pr_callS (av := [pv_i x1, pv_i 1, pv_i 9600]) (S := []) dX12_bests_108 mk_X12_99 rfl rfl (Nat.le_of_ble_eq_true rfl) (by decide) (by decide) (Or.inl rfl) (tmX12_wrong e18) ?_
    refine pr_istore_n dX12_bests_111 (by decide) rfl ?_
    refine pr_iload_n dX12_bests_112 rfl ?_
    refine pr_if_eq (tgt := 118) dX12_bests_113 rfl (by decide) (fun c_19 => ?_) (fun c_19 => ?_)
    · have h := pm_pos c_19 h
      refine pr_aload_n dX12_bests_118 rfl ?_
      refine pr_iconst dX12_bests_119 ?_
      refine pr_putI dX12_bests_120 lp_X12_165 lm_0 rfl ?_
      refine pr_aload_n dX12_bests_123 rfl ?_
      refine pr_iconst dX12_bests_124 ?_
      refine pr_putI dX12_bests_125 lp_X12_168 lm_0 rfl ?_
      refine pr_iconst dX12_bests_128 ?_
      refine pr_istore dX12_bests_129 (by decide) rfl ?_
      refine pr_iconst dX12_bests_131 ?_
      refine pr_istore dX12_bests_132 (by decide) rfl ?_
      obtain ⟨v40, e41, h⟩ := pm_bs h
      refine pr_weak (L2 := [some (pv_r 0), some (pv_i x1), some (pv_i v14.1), none, some (pv_i 0), some (pv_i 1), none, none, none, none, none, none, none, none]) ⟨Or.inr rfl, Or.inr rfl, Or.inr rfl, Or.inl rfl, Or.inr rfl, Or.inr rfl, Or.inl rfl, Or.inl rfl, Or.inl rfl, Or.inl rfl, Or.inl rfl, Or.inl rfl, Or.inl rfl, Or.inl rfl, trivial⟩ ?_
      refine pm_it_J (α := Int × Int × pm_M) (β := Int × Int × pm_M) (f := fun a => bdX12_bests_134 x1 v14.1 a.1 a.2.1 a.2.2) (P := fun a => pm_J mX12_bests 1 22 LAYM (some (pv_i ρ.1)) LAYM ρ.2 134 [some (pv_r 0), some (pv_i x1), some (pv_i v14.1), none, some (pv_i a.1), some (pv_i a.2.1), none, none, none, none, none, none, none, none] [] LAYM a.2.2) (Rx := fun a => pm_J mX12_bests 1 22 LAYM (some (pv_i ρ.1)) LAYM ρ.2 348 [none, none, none, none, none, none, none, none, none, none, none, none, none, none] [] LAYM a.2.2) (tbX12_bests_134 x1 v14.1) pm_fuel (0, 1, (pm_up (pm_up v14.2.2 0 34 0) 0 35 0)) v40 e41 ?_
      show pm_J mX12_bests 1 22 LAYM (some (pv_i ρ.1)) LAYM ρ.2 348 [none, none, none, none, none, none, none, none, none, none, none, none, none, none] [] LAYM v40.2.2
      refine pr_iconst dX12_bests_348 ?_
      have h := Option.some.inj h
      subst h
      exact pr_iret dX12_bests_349 rfl
    · have h := pm_ng c_19 h
      refine pr_iload_n dX12_bests_116 rfl ?_
      have h := Option.some.inj h
      subst h
      exact pr_iret dX12_bests_117 rfl
  · have h := pm_ng c_16 h
    refine pr_bipush dX12_bests_100 (by decide) ?_
    have h := Option.some.inj h
    subst h
    exact pr_iret dX12_bests_102 rfl
