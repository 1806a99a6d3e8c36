def fX12_refuse (x1 : Int) (σ : pm_M) : Option (Int × pm_M) :=
  pm_g (0 ≤ (wr (-x1)) ∧ (wr (-x1)) < 7) (pm_g (0 ≤ (wr (-x1)) ∧ (wr (-x1)) < 7) (some (x1, (pm_up σ 1 (Int.toNat (wr (-x1))) ((σ 1 (Int.toNat (wr (-x1)))) + 1)))))
set_option maxHeartbeats 4000000 in
set_option maxRecDepth 100000 in
theorem tmX12_refuse {x1 : Int} {σ : pm_M} {ρ : Int × pm_M} (h : fX12_refuse x1 σ = some ρ) : pm_C mX12_refuse 0 0 [pv_r 0, pv_i x1] LAYM σ (some (pv_i ρ.1)) LAYM ρ.2 := by
  refine pm_C.of rfl rfl (by decide) ?_
  show pm_J mX12_refuse 0 0 LAYM (some (pv_i ρ.1)) LAYM ρ.2 0 [some (pv_r 0), some (pv_i x1)] [] LAYM σ
  unfold fX12_refuse at h
  refine pr_aload_n dX12_refuse_0 rfl ?_
  refine pr_getR dX12_refuse_1 lk_X12_7 lm_0 rfl ?_
  refine pr_iload_n dX12_refuse_4 rfl ?_
  refine pr_ineg dX12_refuse_5 ?_
  refine pr_dup2 dX12_refuse_6 rfl rfl ?_
  obtain ⟨g_1, h⟩ := pm_gs h
  refine pr_iald dX12_refuse_7 lm_1 rfl g_1 ?_
  refine pr_iconst dX12_refuse_8 ?_
  refine pr_iadd dX12_refuse_9 ?_
  obtain ⟨g_2, h⟩ := pm_gs h
  refine pr_iast dX12_refuse_10 lm_1 rfl g_2 ?_
  refine pr_iload_n dX12_refuse_11 rfl ?_
  have h := Option.some.inj h
  subst h
  exact pr_iret dX12_refuse_12 rfl
def bdX12_reckoned_50 (y1 : Int) (y2 : Int) (y4 : Int) (σ : pm_M) (z3 : Int) (z5 : Int) : Option ((Int × Int) ⊕ (Int × Int)) :=
  if (wr y1) ≤ (wr z5) then (some (.inl (z3, z5))) else (pm_g (0 ≤ (wr ((101 * y2) + z5)) ∧ (wr ((101 * y2) + z5)) < 303) (if (wr (σ 2 (Int.toNat (wr ((101 * y2) + z5))))) < 0 then (some (.inr (z3, (z5 + 1)))) else (pm_g (0 ≤ (wr ((101 * y2) + z5)) ∧ (wr ((101 * y2) + z5)) < 303) (some (.inr ((σ 2 (Int.toNat (wr ((101 * y2) + z5)))), (z5 + 1)))))))
set_option maxHeartbeats 4000000 in
set_option maxRecDepth 100000 in
theorem tbX12_reckoned_50 {lay0 lay' : List pm_S} {r : Option pm_V} {σ' : pm_M} (y1 : Int) (y2 : Int) (y4 : Int) (σ : pm_M) : ∀ (a : Int × Int) (e : (Int × Int) ⊕ (Int × Int)), (fun a => bdX12_reckoned_50 y1 y2 y4 σ a.1 a.2) a = some e → (∀ a, e = .inr a → (fun a => pm_J mX12_reckoned 0 0 lay0 r lay' σ' 50 [some (pv_r 0), some (pv_i y1), some (pv_i y2), some (pv_i a.1), some (pv_i y4), some (pv_i a.2)] [] LAYM σ) a) → (∀ a, e = .inl a → (fun a => pm_J mX12_reckoned 0 0 lay0 r lay' σ' 90 [some (pv_r 0), some (pv_i y1), some (pv_i y2), some (pv_i a.1), some (pv_i y4), none] [] LAYM σ) a) → (fun a => pm_J mX12_reckoned 0 0 lay0 r lay' σ' 50 [some (pv_r 0), some (pv_i y1), some (pv_i y2), some (pv_i a.1), some (pv_i y4), some (pv_i a.2)] [] LAYM σ) a := by
  intro a e h hc hx
  obtain ⟨z3, z5⟩ := a
  have h : bdX12_reckoned_50 y1 y2 y4 σ z3 z5 = some e := h
  unfold bdX12_reckoned_50 at h
  show pm_J mX12_reckoned 0 0 lay0 r lay' σ' 50 [some (pv_r 0), some (pv_i y1), some (pv_i y2), some (pv_i z3), some (pv_i y4), some (pv_i z5)] [] LAYM σ
  refine pr_iload dX12_reckoned_50 rfl ?_
  refine pr_iload_n dX12_reckoned_52 rfl ?_
  refine pr_icmp_ge (tgt := 90) dX12_reckoned_53 rfl rfl (by decide) (fun c_4 => ?_) (fun c_4 => ?_)
  · have h := pm_pos c_4 h
    refine pr_weak (L2 := [some (pv_r 0), some (pv_i y1), some (pv_i y2), some (pv_i z3), some (pv_i y4), none]) ⟨Or.inr rfl, Or.inr rfl, Or.inr rfl, Or.inr rfl, Or.inr rfl, Or.inl rfl, trivial⟩ ?_
    exact hx _ (Option.some.inj h).symm
  · have h := pm_ng c_4 h
    refine pr_aload_n dX12_reckoned_56 rfl ?_
    refine pr_getR dX12_reckoned_57 lk_X12_13 lm_0 rfl ?_
    refine pr_bipush dX12_reckoned_60 (by decide) ?_
    refine pr_iload_n dX12_reckoned_62 rfl ?_
    refine pr_imul dX12_reckoned_63 ?_
    refine pr_iload dX12_reckoned_64 rfl ?_
    refine pr_iadd dX12_reckoned_66 ?_
    obtain ⟨g_5, h⟩ := pm_gs h
    refine pr_iald dX12_reckoned_67 lm_2 rfl g_5 ?_
    refine pr_if_lt (tgt := 84) dX12_reckoned_68 rfl (by decide) (fun c_6 => ?_) (fun c_6 => ?_)
    · have h := pm_pos c_6 h
      refine pr_iinc dX12_reckoned_84 rfl (by decide) rfl ?_
      refine pr_goto (tgt := 50) dX12_reckoned_87 (by decide) ?_
      refine pr_weak (L2 := [some (pv_r 0), some (pv_i y1), some (pv_i y2), some (pv_i z3), some (pv_i y4), some (pv_i (z5 + 1))]) ⟨Or.inr rfl, Or.inr rfl, Or.inr rfl, Or.inr rfl, Or.inr rfl, Or.inr rfl, trivial⟩ ?_
      exact hc _ (Option.some.inj h).symm
    · have h := pm_ng c_6 h
      refine pr_aload_n dX12_reckoned_71 rfl ?_
      refine pr_getR dX12_reckoned_72 lk_X12_13 lm_0 rfl ?_
      refine pr_bipush dX12_reckoned_75 (by decide) ?_
      refine pr_iload_n dX12_reckoned_77 rfl ?_
      refine pr_imul dX12_reckoned_78 ?_
      refine pr_iload dX12_reckoned_79 rfl ?_
      refine pr_iadd dX12_reckoned_81 ?_
      obtain ⟨g_7, h⟩ := pm_gs h
      refine pr_iald dX12_reckoned_82 lm_2 rfl g_7 ?_
      refine pr_istore_n dX12_reckoned_83 (by decide) rfl ?_
      refine pr_iinc dX12_reckoned_84 rfl (by decide) rfl ?_
      refine pr_goto (tgt := 50) dX12_reckoned_87 (by decide) ?_
      refine pr_weak (L2 := [some (pv_r 0), some (pv_i y1), some (pv_i y2), some (pv_i (σ 2 (Int.toNat (wr ((101 * y2) + z5))))), some (pv_i y4), some (pv_i (z5 + 1))]) ⟨Or.inr rfl, Or.inr rfl, Or.inr rfl, Or.inr rfl, Or.inr rfl, Or.inr rfl, trivial⟩ ?_
      exact hc _ (Option.some.inj h).symm
def bdX12_reckoned_94 (y1 : Int) (y2 : Int) (y3 : Int) (σ : pm_M) (z4 : Int) (z5 : Int) : Option ((Int × Int) ⊕ (Int × Int)) :=
  if (wr z5) ≤ (wr y1) then (some (.inl (z4, z5))) else (pm_g (0 ≤ (wr ((101 * y2) + z5)) ∧ (wr ((101 * y2) + z5)) < 303) (if (wr (σ 2 (Int.toNat (wr ((101 * y2) + z5))))) < 0 then (some (.inr (z4, (z5 + (-1))))) else (pm_g (0 ≤ (wr ((101 * y2) + z5)) ∧ (wr ((101 * y2) + z5)) < 303) (some (.inr ((σ 2 (Int.toNat (wr ((101 * y2) + z5)))), (z5 + (-1))))))))
set_option maxHeartbeats 4000000 in
set_option maxRecDepth 100000 in
theorem tbX12_reckoned_94 {lay0 lay' : List pm_S} {r : Option pm_V} {σ' : pm_M} (y1 : Int) (y2 : Int) (y3 : Int) (σ : pm_M) : ∀ (a : Int × Int) (e : (Int × Int) ⊕ (Int × Int)), (fun a => bdX12_reckoned_94 y1 y2 y3 σ a.1 a.2) a = some e → (∀ a, e = .inr a → (fun a => pm_J mX12_reckoned 0 0 lay0 r lay' σ' 94 [some (pv_r 0), some (pv_i y1), some (pv_i y2), some (pv_i y3), some (pv_i a.1), some (pv_i a.2)] [] LAYM σ) a) → (∀ a, e = .inl a → (fun a => pm_J mX12_reckoned 0 0 lay0 r lay' σ' 135 [none, none, some (pv_i y2), some (pv_i y3), some (pv_i a.1), none] [] LAYM σ) a) → (fun a => pm_J mX12_reckoned 0 0 lay0 r lay' σ' 94 [some (pv_r 0), some (pv_i y1), some (pv_i y2), some (pv_i y3), some (pv_i a.1), some (pv_i a.2)] [] LAYM σ) a := by
  intro a e h hc hx
  obtain ⟨z4, z5⟩ := a
  have h : bdX12_reckoned_94 y1 y2 y3 σ z4 z5 = some e := h
  unfold bdX12_reckoned_94 at h
  show pm_J mX12_reckoned 0 0 lay0 r lay' σ' 94 [some (pv_r 0), some (pv_i y1), some (pv_i y2), some (pv_i y3), some (pv_i z4), some (pv_i z5)] [] LAYM σ
  refine pr_iload dX12_reckoned_94 rfl ?_
  refine pr_iload_n dX12_reckoned_96 rfl ?_
  refine pr_icmp_le (tgt := 135) dX12_reckoned_97 rfl rfl (by decide) (fun c_10 => ?_) (fun c_10 => ?_)
  · have h := pm_pos c_10 h
    refine pr_weak (L2 := [none, none, some (pv_i y2), some (pv_i y3), some (pv_i z4), none]) ⟨Or.inl rfl, Or.inl rfl, Or.inr rfl, Or.inr rfl, Or.inr rfl, Or.inl rfl, trivial⟩ ?_
    exact hx _ (Option.some.inj h).symm
  · have h := pm_ng c_10 h
    refine pr_aload_n dX12_reckoned_100 rfl ?_
    refine pr_getR dX12_reckoned_101 lk_X12_13 lm_0 rfl ?_
    refine pr_bipush dX12_reckoned_104 (by decide) ?_
    refine pr_iload_n dX12_reckoned_106 rfl ?_
    refine pr_imul dX12_reckoned_107 ?_
    refine pr_iload dX12_reckoned_108 rfl ?_
    refine pr_iadd dX12_reckoned_110 ?_
    obtain ⟨g_11, h⟩ := pm_gs h
    refine pr_iald dX12_reckoned_111 lm_2 rfl g_11 ?_
    refine pr_if_lt (tgt := 129) dX12_reckoned_112 rfl (by decide) (fun c_12 => ?_) (fun c_12 => ?_)
    · have h := pm_pos c_12 h
      refine pr_iinc dX12_reckoned_129 rfl (by decide) rfl ?_
      refine pr_goto (tgt := 94) dX12_reckoned_132 (by decide) ?_
      refine pr_weak (L2 := [some (pv_r 0), some (pv_i y1), some (pv_i y2), some (pv_i y3), some (pv_i z4), some (pv_i (z5 + (-1)))]) ⟨Or.inr rfl, Or.inr rfl, Or.inr rfl, Or.inr rfl, Or.inr rfl, Or.inr rfl, trivial⟩ ?_
      exact hc _ (Option.some.inj h).symm
    · have h := pm_ng c_12 h
      refine pr_aload_n dX12_reckoned_115 rfl ?_
      refine pr_getR dX12_reckoned_116 lk_X12_13 lm_0 rfl ?_
      refine pr_bipush dX12_reckoned_119 (by decide) ?_
      refine pr_iload_n dX12_reckoned_121 rfl ?_
      refine pr_imul dX12_reckoned_122 ?_
      refine pr_iload dX12_reckoned_123 rfl ?_
      refine pr_iadd dX12_reckoned_125 ?_
      obtain ⟨g_13, h⟩ := pm_gs h
      refine pr_iald dX12_reckoned_126 lm_2 rfl g_13 ?_
      refine pr_istore dX12_reckoned_127 (by decide) rfl ?_
      refine pr_iinc dX12_reckoned_129 rfl (by decide) rfl ?_
      refine pr_goto (tgt := 94) dX12_reckoned_132 (by decide) ?_
      refine pr_weak (L2 := [some (pv_r 0), some (pv_i y1), some (pv_i y2), some (pv_i y3), some (pv_i (σ 2 (Int.toNat (wr ((101 * y2) + z5))))), some (pv_i (z5 + (-1)))]) ⟨Or.inr rfl, Or.inr rfl, Or.inr rfl, Or.inr rfl, Or.inr rfl, Or.inr rfl, trivial⟩ ?_
      exact hc _ (Option.some.inj h).symm
def jnX12_reckoned_155 (w3 : Int) (w4 : Int) (σ : pm_M) : Option (Int) :=
  if 0 ≤ (wr w3) then (if 0 ≤ (wr w4) then (some (Int.tdiv (wr (w3 + w4)) 2)) else (some w3)) else (some w4)
set_option maxHeartbeats 4000000 in
set_option maxRecDepth 100000 in
theorem tjX12_reckoned_155 {lay0 : List pm_S} {w3 : Int} {w4 : Int} {σ : pm_M} {ρ : Int} (h : jnX12_reckoned_155 w3 w4 σ = some ρ) : pm_J mX12_reckoned 0 0 lay0 (some (pv_i ρ)) LAYM σ 155 [none, none, none, some (pv_i w3), some (pv_i w4), none] [] LAYM σ := by
  unfold jnX12_reckoned_155 at h
  refine pr_iload_n dX12_reckoned_155 rfl ?_
  refine pr_if_ge (tgt := 164) dX12_reckoned_156 rfl (by decide) (fun c_17 => ?_) (fun c_17 => ?_)
  · have h := pm_pos c_17 h
    refine pr_iload dX12_reckoned_164 rfl ?_
    refine pr_if_ge (tgt := 173) dX12_reckoned_166 rfl (by decide) (fun c_18 => ?_) (fun c_18 => ?_)
    · have h := pm_pos c_18 h
      refine pr_iload_n dX12_reckoned_173 rfl ?_
      refine pr_iload dX12_reckoned_174 rfl ?_
      refine pr_iadd dX12_reckoned_176 ?_
      refine pr_iconst dX12_reckoned_177 ?_
      refine pr_idiv dX12_reckoned_178 rfl (wr_eq (by decide) (by decide)) (by decide) ?_
      have h := Option.some.inj h
      subst h
      exact pr_iret dX12_reckoned_179 rfl
    · have h := pm_ng c_18 h
      refine pr_iload_n dX12_reckoned_169 rfl ?_
      refine pr_goto (tgt := 179) dX12_reckoned_170 (by decide) ?_
      have h := Option.some.inj h
      subst h
      exact pr_iret dX12_reckoned_179 rfl
  · have h := pm_ng c_17 h
    refine pr_iload dX12_reckoned_159 rfl ?_
    refine pr_goto (tgt := 179) dX12_reckoned_161 (by decide) ?_
    have h := Option.some.inj h
    subst h
    exact pr_iret dX12_reckoned_179 rfl
def fX12_reckoned (x1 : Int) (x2 : Int) (σ : pm_M) : Option (Int) :=
  if (wr x2) = 2 then (pm_g (0 ≤ (wr (202 + x1)) ∧ (wr (202 + x1)) < 303) (some (σ 2 (Int.toNat (wr (202 + x1)))))) else (pm_g (0 ≤ (wr ((101 * x2) + x1)) ∧ (wr ((101 * x2) + x1)) < 303) (if (wr (σ 2 (Int.toNat (wr ((101 * x2) + x1))))) < 0 then ((pm_it (fun a => bdX12_reckoned_50 x1 x2 (-1) σ a.1 a.2) pm_fuel ((-1), 0)).bind fun v8 => (pm_it (fun a => bdX12_reckoned_94 x1 x2 v8.1 σ a.1 a.2) pm_fuel ((-1), 100)).bind fun v14 => if 0 ≤ (wr v8.1) then (jnX12_reckoned_155 v8.1 v14.1 σ) else (if 0 ≤ (wr v14.1) then (jnX12_reckoned_155 v8.1 v14.1 σ) else (if (wr x2) = 0 then (some 20) else (some 4)))) else (pm_g (0 ≤ (wr ((101 * x2) + x1)) ∧ (wr ((101 * x2) + x1)) < 303) (some (σ 2 (Int.toNat (wr ((101 * x2) + x1))))))))
set_option maxHeartbeats 4000000 in
set_option maxRecDepth 100000 in
theorem tmX12_reckoned {x1 : Int} {x2 : Int} {σ : pm_M} {ρ : Int} (h : fX12_reckoned x1 x2 σ = some ρ) : pm_C mX12_reckoned 0 0 [pv_r 0, pv_i x1, pv_i x2] LAYM σ (some (pv_i ρ)) LAYM σ := by
  refine pm_C.of rfl rfl (by decide) ?_
  show pm_J mX12_reckoned 0 0 LAYM (some (pv_i ρ)) LAYM σ 0 [some (pv_r 0), some (pv_i x1), some (pv_i x2), none, none, none] [] LAYM σ
  unfold fX12_reckoned at h
  refine pr_iload_n dX12_reckoned_0 rfl ?_
  refine pr_iconst dX12_reckoned_1 ?_
  refine pr_icmp_ne (tgt := 16) dX12_reckoned_2 rfl (wr_eq (by decide) (by decide)) (by decide) (fun c_1 => ?_) (fun c_1 => ?_)
  · have h := pm_ng c_1 h
    refine pr_aload_n dX12_reckoned_16 rfl ?_
    refine pr_getR dX12_reckoned_17 lk_X12_13 lm_0 rfl ?_
    refine pr_bipush dX12_reckoned_20 (by decide) ?_
    refine pr_iload_n dX12_reckoned_22 rfl ?_
    refine pr_imul dX12_reckoned_23 ?_
    refine pr_iload_n dX12_reckoned_24 rfl ?_
    refine pr_iadd dX12_reckoned_25 ?_
    obtain ⟨g_2, h⟩ := pm_gs h
    refine pr_iald dX12_reckoned_26 lm_2 rfl g_2 ?_
    refine pr_if_lt (tgt := 42) dX12_reckoned_27 rfl (by decide) (fun c_3 => ?_) (fun c_3 => ?_)
    · have h := pm_pos c_3 h
      refine pr_iconst dX12_reckoned_42 ?_
      refine pr_istore_n dX12_reckoned_43 (by decide) rfl ?_
      refine pr_iconst dX12_reckoned_44 ?_
      refine pr_istore dX12_reckoned_45 (by decide) rfl ?_
      refine pr_iconst dX12_reckoned_47 ?_
      refine pr_istore dX12_reckoned_48 (by decide) rfl ?_
      obtain ⟨v8, e9, h⟩ := pm_bs h
      refine pr_weak (L2 := [some (pv_r 0), some (pv_i x1), some (pv_i x2), some (pv_i (-1)), some (pv_i (-1)), some (pv_i 0)]) ⟨Or.inr rfl, Or.inr rfl, Or.inr rfl, Or.inr rfl, Or.inr rfl, Or.inr rfl, trivial⟩ ?_
      refine pm_it_J (P := fun a => pm_J mX12_reckoned 0 0 LAYM (some (pv_i ρ)) LAYM σ 50 [some (pv_r 0), some (pv_i x1), some (pv_i x2), some (pv_i a.1), some (pv_i (-1)), some (pv_i a.2)] [] LAYM σ) (Rx := fun a => pm_J mX12_reckoned 0 0 LAYM (some (pv_i ρ)) LAYM σ 90 [some (pv_r 0), some (pv_i x1), some (pv_i x2), some (pv_i a.1), some (pv_i (-1)), none] [] LAYM σ) (tbX12_reckoned_50 x1 x2 (-1) σ) _ _ _ e9 ?_
      show pm_J mX12_reckoned 0 0 LAYM (some (pv_i ρ)) LAYM σ 90 [some (pv_r 0), some (pv_i x1), some (pv_i x2), some (pv_i v8.1), some (pv_i (-1)), none] [] LAYM σ
      refine pr_bipush dX12_reckoned_90 (by decide) ?_
      refine pr_istore dX12_reckoned_92 (by decide) rfl ?_
      obtain ⟨v14, e15, h⟩ := pm_bs h
      refine pr_weak (L2 := [some (pv_r 0), some (pv_i x1), some (pv_i x2), some (pv_i v8.1), some (pv_i (-1)), some (pv_i 100)]) ⟨Or.inr rfl, Or.inr rfl, Or.inr rfl, Or.inr rfl, Or.inr rfl, Or.inr rfl, trivial⟩ ?_
      refine pm_it_J (P := fun a => pm_J mX12_reckoned 0 0 LAYM (some (pv_i ρ)) LAYM σ 94 [some (pv_r 0), some (pv_i x1), some (pv_i x2), some (pv_i v8.1), some (pv_i a.1), some (pv_i a.2)] [] LAYM σ) (Rx := fun a => pm_J mX12_reckoned 0 0 LAYM (some (pv_i ρ)) LAYM σ 135 [none, none, some (pv_i x2), some (pv_i v8.1), some (pv_i a.1), none] [] LAYM σ) (tbX12_reckoned_94 x1 x2 v8.1 σ) _ _ _ e15 ?_
      show pm_J mX12_reckoned 0 0 LAYM (some (pv_i ρ)) LAYM σ 135 [none, none, some (pv_i x2), some (pv_i v8.1), some (pv_i v14.1), none] [] LAYM σ
      refine pr_iload_n dX12_reckoned_135 rfl ?_
      refine pr_if_ge (tgt := 155) dX12_reckoned_136 rfl (by decide) (fun c_16 => ?_) (fun c_16 => ?_)
      · have h := pm_pos c_16 h
        refine pr_weak (L2 := [none, none, none, some (pv_i v8.1), some (pv_i v14.1), none]) ⟨Or.inl rfl, Or.inl rfl, Or.inl rfl, Or.inr rfl, Or.inr rfl, Or.inl rfl, trivial⟩ ?_
        exact tjX12_reckoned_155 h
      · have h := pm_ng c_16 h
        refine pr_iload dX12_reckoned_139 rfl ?_
        refine pr_if_ge (tgt := 155) dX12_reckoned_141 rfl (by decide) (fun c_19 => ?_) (fun c_19 => ?_)
        · have h := pm_pos c_19 h
          refine pr_weak (L2 := [none, none, none, some (pv_i v8.1), some (pv_i v14.1), none]) ⟨Or.inl rfl, Or.inl rfl, Or.inl rfl, Or.inr rfl, Or.inr rfl, Or.inl rfl, trivial⟩ ?_
          exact tjX12_reckoned_155 h
        · have h := pm_ng c_19 h
          refine pr_iload_n dX12_reckoned_144 rfl ?_
          refine pr_if_ne (tgt := 153) dX12_reckoned_145 rfl (by decide) (fun c_20 => ?_) (fun c_20 => ?_)
          · have h := pm_ng c_20 h
            refine pr_iconst dX12_reckoned_153 ?_
            have h := Option.some.inj h
            subst h
            exact pr_iret dX12_reckoned_154 rfl
          · have h := pm_pos c_20 h
            refine pr_bipush dX12_reckoned_148 (by decide) ?_
            refine pr_goto (tgt := 154) dX12_reckoned_150 (by decide) ?_
            have h := Option.some.inj h
            subst h
            exact pr_iret dX12_reckoned_154 rfl
    · have h := pm_ng c_3 h
      refine pr_aload_n dX12_reckoned_30 rfl ?_
      refine pr_getR dX12_reckoned_31 lk_X12_13 lm_0 rfl ?_
      refine pr_bipush dX12_reckoned_34 (by decide) ?_
      refine pr_iload_n dX12_reckoned_36 rfl ?_
      refine pr_imul dX12_reckoned_37 ?_
      refine pr_iload_n dX12_reckoned_38 rfl ?_
      refine pr_iadd dX12_reckoned_39 ?_
      obtain ⟨g_21, h⟩ := pm_gs h
      refine pr_iald dX12_reckoned_40 lm_2 rfl g_21 ?_
      have h := Option.some.inj h
      subst h
      exact pr_iret dX12_reckoned_41 rfl
  · have h := pm_pos c_1 h
    refine pr_aload_n dX12_reckoned_5 rfl ?_
    refine pr_getR dX12_reckoned_6 lk_X12_13 lm_0 rfl ?_
    refine pr_sipush dX12_reckoned_9 (by decide) ?_
    refine pr_iload_n dX12_reckoned_12 rfl ?_
    refine pr_iadd dX12_reckoned_13 ?_
    obtain ⟨g_22, h⟩ := pm_gs h
    refine pr_iald dX12_reckoned_14 lm_2 rfl g_22 ?_
    have h := Option.some.inj h
    subst h
    exact pr_iret dX12_reckoned_15 rfl
def jnX12_day_60 (w1 : Int) (w2 : Int) (w3 : Int) (u0 : Int) (σ : pm_M) : Option (Int × pm_M) :=
  if (wr u0) = 0 then ((fX12_reckoned w1 w2 σ).bind fun q13 => pm_g (0 ≤ (wr ((101 * w2) + w1)) ∧ (wr ((101 * w2) + w1)) < 303) (some (q13, (pm_up σ 2 (Int.toNat (wr ((101 * w2) + w1))) w3)))) else ((fX12_refuse u0 σ).bind fun q16 => some (q16.1, q16.2))
set_option maxHeartbeats 4000000 in
set_option maxRecDepth 100000 in
theorem tjX12_day_60 {lay0 : List pm_S} {w1 : Int} {w2 : Int} {w3 : Int} {u0 : Int} {σ : pm_M} {ρ : Int × pm_M} (h : jnX12_day_60 w1 w2 w3 u0 σ = some ρ) : pm_J mX12_day 1 25 lay0 (some (pv_i ρ.1)) LAYM ρ.2 60 [some (pv_r 0), some (pv_i w1), some (pv_i w2), some (pv_i w3), none, none] [pv_i u0] LAYM σ := by
  unfold jnX12_day_60 at h
  refine pr_istore dX12_day_60 (by decide) rfl ?_
  refine pr_iload dX12_day_62 rfl ?_
  refine pr_if_eq (tgt := 74) dX12_day_64 rfl (by decide) (fun c_12 => ?_) (fun c_12 => ?_)
  · have h := pm_pos c_12 h
    refine pr_aload_n dX12_day_74 rfl ?_
    refine pr_iload_n dX12_day_75 rfl ?_
    refine pr_iload_n dX12_day_76 rfl ?_
    obtain ⟨q13, e14, h⟩ := pm_bs h
    refine pr_callV (As := [pv_i w1, pv_i w2]) (S := []) (t := 0) dX12_day_77 mk_X12_107 lm_0 (ci := 12) (q := (RX12, TX12, 36)) rfl rfl rfl rfl (by decide) (by decide) (by decide) (Or.inl rfl) (tmX12_reckoned e14) ?_
    refine pr_istore dX12_day_80 (by decide) rfl ?_
    refine pr_aload_n dX12_day_82 rfl ?_
    refine pr_getR dX12_day_83 lk_X12_13 lm_0 rfl ?_
    refine pr_bipush dX12_day_86 (by decide) ?_
    refine pr_iload_n dX12_day_88 rfl ?_
    refine pr_imul dX12_day_89 ?_
    refine pr_iload_n dX12_day_90 rfl ?_
    refine pr_iadd dX12_day_91 ?_
    refine pr_iload_n dX12_day_92 rfl ?_
    obtain ⟨g_15, h⟩ := pm_gs h
    refine pr_iast dX12_day_93 lm_2 rfl g_15 ?_
    refine pr_iload dX12_day_94 rfl ?_
    have h := Option.some.inj h
    subst h
    exact pr_iret dX12_day_96 rfl
  · have h := pm_ng c_12 h
    refine pr_aload_n dX12_day_67 rfl ?_
    refine pr_iload dX12_day_68 rfl ?_
    obtain ⟨q16, e17, h⟩ := pm_bs h
    refine pr_callV (As := [pv_i u0]) (S := []) (t := 0) dX12_day_70 mk_X12_103 lm_0 (ci := 12) (q := (RX12, TX12, 36)) rfl rfl rfl rfl (by decide) (by decide) (by decide) (Or.inl rfl) (tmX12_refuse e17) ?_
    have h := Option.some.inj h
    subst h
    exact pr_iret dX12_day_73 rfl
def jnX12_day_57 (w1 : Int) (w2 : Int) (w3 : Int) (u0 : Int) (u1 : Int) (u2 : Int) (σ : pm_M) : Option (Int × pm_M) :=
  (fX12_wrong u2 u1 u0).bind fun q10 => jnX12_day_60 w1 w2 w3 q10 σ
set_option maxHeartbeats 4000000 in
set_option maxRecDepth 100000 in
theorem tjX12_day_57 {lay0 : List pm_S} {w1 : Int} {w2 : Int} {w3 : Int} {u0 : Int} {u1 : Int} {u2 : Int} {σ : pm_M} {ρ : Int × pm_M} (h : jnX12_day_57 w1 w2 w3 u0 u1 u2 σ = some ρ) : pm_J mX12_day 1 25 lay0 (some (pv_i ρ.1)) LAYM ρ.2 57 [some (pv_r 0), some (pv_i w1), some (pv_i w2), some (pv_i w3), none, none] [pv_i u0, pv_i u1, pv_i u2] LAYM σ := by
  unfold jnX12_day_57 at h
  obtain ⟨q10, e11, h⟩ := pm_bs h
  refine pr_callS (av := [pv_i u2, pv_i u1, pv_i u0]) (S := []) dX12_day_57 mk_X12_99 rfl rfl (by decide) (by decide) (by decide) (Or.inl rfl) (tmX12_wrong e11) ?_
  refine pr_weak (L2 := [some (pv_r 0), some (pv_i w1), some (pv_i w2), some (pv_i w3), none, none]) ⟨Or.inr rfl, Or.inr rfl, Or.inr rfl, Or.inr rfl, Or.inl rfl, Or.inl rfl, trivial⟩ ?_
  exact tjX12_day_60 h
def jnX12_day_37 (w1 : Int) (w2 : Int) (w3 : Int) (u0 : Int) (u1 : Int) (σ : pm_M) : Option (Int × pm_M) :=
  if (wr w2) = 0 then (jnX12_day_57 w1 w2 w3 60 u0 u1 σ) else (if (wr w2) = 1 then (jnX12_day_57 w1 w2 w3 9 u0 u1 σ) else (jnX12_day_57 w1 w2 w3 1 u0 u1 σ))
set_option maxHeartbeats 4000000 in
set_option maxRecDepth 100000 in
theorem tjX12_day_37 {lay0 : List pm_S} {w1 : Int} {w2 : Int} {w3 : Int} {u0 : Int} {u1 : Int} {σ : pm_M} {ρ : Int × pm_M} (h : jnX12_day_37 w1 w2 w3 u0 u1 σ = some ρ) : pm_J mX12_day 1 25 lay0 (some (pv_i ρ.1)) LAYM ρ.2 37 [some (pv_r 0), some (pv_i w1), some (pv_i w2), some (pv_i w3), none, none] [pv_i u0, pv_i u1] LAYM σ := by
  unfold jnX12_day_37 at h
  refine pr_iload_n dX12_day_37 rfl ?_
  refine pr_if_ne (tgt := 46) dX12_day_38 rfl (by decide) (fun c_8 => ?_) (fun c_8 => ?_)
  · have h := pm_ng c_8 h
    refine pr_iload_n dX12_day_46 rfl ?_
    refine pr_iconst dX12_day_47 ?_
    refine pr_icmp_ne (tgt := 56) dX12_day_48 rfl (wr_eq (by decide) (by decide)) (by decide) (fun c_9 => ?_) (fun c_9 => ?_)
    · have h := pm_ng c_9 h
      refine pr_iconst dX12_day_56 ?_
      refine pr_weak (L2 := [some (pv_r 0), some (pv_i w1), some (pv_i w2), some (pv_i w3), none, none]) ⟨Or.inr rfl, Or.inr rfl, Or.inr rfl, Or.inr rfl, Or.inl rfl, Or.inl rfl, trivial⟩ ?_
      exact tjX12_day_57 h
    · have h := pm_pos c_9 h
      refine pr_bipush dX12_day_51 (by decide) ?_
      refine pr_goto (tgt := 57) dX12_day_53 (by decide) ?_
      refine pr_weak (L2 := [some (pv_r 0), some (pv_i w1), some (pv_i w2), some (pv_i w3), none, none]) ⟨Or.inr rfl, Or.inr rfl, Or.inr rfl, Or.inr rfl, Or.inl rfl, Or.inl rfl, trivial⟩ ?_
      exact tjX12_day_57 h
  · have h := pm_pos c_8 h
    refine pr_bipush dX12_day_41 (by decide) ?_
    refine pr_goto (tgt := 57) dX12_day_43 (by decide) ?_
    refine pr_weak (L2 := [some (pv_r 0), some (pv_i w1), some (pv_i w2), some (pv_i w3), none, none]) ⟨Or.inr rfl, Or.inr rfl, Or.inr rfl, Or.inr rfl, Or.inl rfl, Or.inl rfl, trivial⟩ ?_
    exact tjX12_day_57 h
def fX12_day (x1 : Int) (x2 : Int) (x3 : Int) (σ : pm_M) : Option (Int × pm_M) :=
  (fX12_isIn x1 101).bind fun q1 => if (wr q1) = 0 then (jnX12_day_60 x1 x2 x3 (-1) σ) else ((fX12_isIn x2 3).bind fun q4 => if (wr q4) = 0 then (jnX12_day_60 x1 x2 x3 (-2) σ) else (if (wr x2) = 2 then (jnX12_day_37 x1 x2 x3 0 x3 σ) else (jnX12_day_37 x1 x2 x3 (-1) x3 σ)))
set_option maxHeartbeats 4000000 in
set_option maxRecDepth 100000 in
theorem tmX12_day {x1 : Int} {x2 : Int} {x3 : Int} {σ : pm_M} {ρ : Int × pm_M} (h : fX12_day x1 x2 x3 σ = some ρ) : pm_C mX12_day 1 25 [pv_r 0, pv_i x1, pv_i x2, pv_i x3] LAYM σ (some (pv_i ρ.1)) LAYM ρ.2 := by
  refine pm_C.of rfl rfl (by decide) ?_
  show pm_J mX12_day 1 25 LAYM (some (pv_i ρ.1)) LAYM ρ.2 0 [some (pv_r 0), some (pv_i x1), some (pv_i x2), some (pv_i x3), none, none] [] LAYM σ
  unfold fX12_day at h
  refine pr_iload_n dX12_day_0 rfl ?_
  refine pr_bipush dX12_day_1 (by decide) ?_
  obtain ⟨q1, e2, h⟩ := pm_bs h
  refine pr_callS (av := [pv_i x1, pv_i 101]) (S := []) dX12_day_3 mk_X12_95 rfl rfl (by decide) (by decide) (by decide) (Or.inl rfl) (tmX12_isIn e2) ?_
  refine pr_if_ne (tgt := 13) dX12_day_6 rfl (by decide) (fun c_3 => ?_) (fun c_3 => ?_)
  · have h := pm_ng c_3 h
    refine pr_iload_n dX12_day_13 rfl ?_
    refine pr_iconst dX12_day_14 ?_
    obtain ⟨q4, e5, h⟩ := pm_bs h
    refine pr_callS (av := [pv_i x2, pv_i 3]) (S := []) dX12_day_15 mk_X12_95 rfl rfl (by decide) (by decide) (by decide) (Or.inl rfl) (tmX12_isIn e5) ?_
    refine pr_if_ne (tgt := 26) dX12_day_18 rfl (by decide) (fun c_6 => ?_) (fun c_6 => ?_)
    · have h := pm_ng c_6 h
      refine pr_iload_n dX12_day_26 rfl ?_
      refine pr_iload_n dX12_day_27 rfl ?_
      refine pr_iconst dX12_day_28 ?_
      refine pr_icmp_ne (tgt := 36) dX12_day_29 rfl (wr_eq (by decide) (by decide)) (by decide) (fun c_7 => ?_) (fun c_7 => ?_)
      · have h := pm_ng c_7 h
        refine pr_iconst dX12_day_36 ?_
        refine pr_weak (L2 := [some (pv_r 0), some (pv_i x1), some (pv_i x2), some (pv_i x3), none, none]) ⟨Or.inr rfl, Or.inr rfl, Or.inr rfl, Or.inr rfl, Or.inl rfl, Or.inl rfl, trivial⟩ ?_
        exact tjX12_day_37 h
      · have h := pm_pos c_7 h
        refine pr_iconst dX12_day_32 ?_
        refine pr_goto (tgt := 37) dX12_day_33 (by decide) ?_
        refine pr_weak (L2 := [some (pv_r 0), some (pv_i x1), some (pv_i x2), some (pv_i x3), none, none]) ⟨Or.inr rfl, Or.inr rfl, Or.inr rfl, Or.inr rfl, Or.inl rfl, Or.inl rfl, trivial⟩ ?_
        exact tjX12_day_37 h
    · have h := pm_pos c_6 h
      refine pr_bipush dX12_day_21 (by decide) ?_
      refine pr_goto (tgt := 60) dX12_day_23 (by decide) ?_
      refine pr_weak (L2 := [some (pv_r 0), some (pv_i x1), some (pv_i x2), some (pv_i x3), none, none]) ⟨Or.inr rfl, Or.inr rfl, Or.inr rfl, Or.inr rfl, Or.inl rfl, Or.inl rfl, trivial⟩ ?_
      exact tjX12_day_60 h
  · have h := pm_pos c_3 h
    refine pr_iconst dX12_day_9 ?_
    refine pr_goto (tgt := 60) dX12_day_10 (by decide) ?_
    refine pr_weak (L2 := [some (pv_r 0), some (pv_i x1), some (pv_i x2), some (pv_i x3), none, none]) ⟨Or.inr rfl, Or.inr rfl, Or.inr rfl, Or.inr rfl, Or.inl rfl, Or.inl rfl, trivial⟩ ?_
    exact tjX12_day_60 h
def fX12_dayOf (x1 : Int) (x2 : Int) (σ : pm_M) : Option (Int × pm_M) :=
  (fX12_isIn x1 101).bind fun q1 => if (wr q1) = 0 then ((fX12_refuse (-1) σ).bind fun q11 => some (q11.1, q11.2)) else ((fX12_isIn x2 3).bind fun q4 => if (wr q4) = 0 then ((fX12_refuse (-2) σ).bind fun q9 => some (q9.1, q9.2)) else ((fX12_reckoned x1 x2 σ).bind fun q7 => some (q7, σ)))
set_option maxHeartbeats 4000000 in
set_option maxRecDepth 100000 in
theorem tmX12_dayOf {x1 : Int} {x2 : Int} {σ : pm_M} {ρ : Int × pm_M} (h : fX12_dayOf x1 x2 σ = some ρ) : pm_C mX12_dayOf 1 25 [pv_r 0, pv_i x1, pv_i x2] LAYM σ (some (pv_i ρ.1)) LAYM ρ.2 := by
  refine pm_C.of rfl rfl (by decide) ?_
  show pm_J mX12_dayOf 1 25 LAYM (some (pv_i ρ.1)) LAYM ρ.2 0 [some (pv_r 0), some (pv_i x1), some (pv_i x2)] [] LAYM σ
  unfold fX12_dayOf at h
  refine pr_iload_n dX12_dayOf_0 rfl ?_
  refine pr_bipush dX12_dayOf_1 (by decide) ?_
  obtain ⟨q1, e2, h⟩ := pm_bs h
  refine pr_callS (av := [pv_i x1, pv_i 101]) (S := []) dX12_dayOf_3 mk_X12_95 rfl rfl (by decide) (by decide) (by decide) (Or.inl rfl) (tmX12_isIn e2) ?_
  refine pr_if_ne (tgt := 17) dX12_dayOf_6 rfl (by decide) (fun c_3 => ?_) (fun c_3 => ?_)
  · have h := pm_ng c_3 h
    refine pr_iload_n dX12_dayOf_17 rfl ?_
    refine pr_iconst dX12_dayOf_18 ?_
    obtain ⟨q4, e5, h⟩ := pm_bs h
    refine pr_callS (av := [pv_i x2, pv_i 3]) (S := []) dX12_dayOf_19 mk_X12_95 rfl rfl (by decide) (by decide) (by decide) (Or.inl rfl) (tmX12_isIn e5) ?_
    refine pr_if_ne (tgt := 34) dX12_dayOf_22 rfl (by decide) (fun c_6 => ?_) (fun c_6 => ?_)
    · have h := pm_ng c_6 h
      refine pr_aload_n dX12_dayOf_34 rfl ?_
      refine pr_iload_n dX12_dayOf_35 rfl ?_
      refine pr_iload_n dX12_dayOf_36 rfl ?_
      obtain ⟨q7, e8, h⟩ := pm_bs h
      refine pr_callV (As := [pv_i x1, pv_i x2]) (S := []) (t := 0) dX12_dayOf_37 mk_X12_107 lm_0 (ci := 12) (q := (RX12, TX12, 36)) rfl rfl rfl rfl (by decide) (by decide) (by decide) (Or.inl rfl) (tmX12_reckoned e8) ?_
      have h := Option.some.inj h
      subst h
      exact pr_iret dX12_dayOf_40 rfl
    · have h := pm_pos c_6 h
      refine pr_aload_n dX12_dayOf_25 rfl ?_
      refine pr_bipush dX12_dayOf_26 (by decide) ?_
      obtain ⟨q9, e10, h⟩ := pm_bs h
      refine pr_callV (As := [pv_i (-2)]) (S := []) (t := 0) dX12_dayOf_28 mk_X12_103 lm_0 (ci := 12) (q := (RX12, TX12, 36)) rfl rfl rfl rfl (by decide) (by decide) (by decide) (Or.inl rfl) (tmX12_refuse e10) ?_
      refine pr_goto (tgt := 40) dX12_dayOf_31 (by decide) ?_
      have h := Option.some.inj h
      subst h
      exact pr_iret dX12_dayOf_40 rfl
  · have h := pm_pos c_3 h
    refine pr_aload_n dX12_dayOf_9 rfl ?_
    refine pr_iconst dX12_dayOf_10 ?_
    obtain ⟨q11, e12, h⟩ := pm_bs h
    refine pr_callV (As := [pv_i (-1)]) (S := []) (t := 0) dX12_dayOf_11 mk_X12_103 lm_0 (ci := 12) (q := (RX12, TX12, 36)) rfl rfl rfl rfl (by decide) (by decide) (by decide) (Or.inl rfl) (tmX12_refuse e12) ?_
    refine pr_goto (tgt := 40) dX12_dayOf_14 (by decide) ?_
    have h := Option.some.inj h
    subst h
    exact pr_iret dX12_dayOf_40 rfl
def fX12_isKind (x1 : Int) (σ : pm_M) : Option (Int) :=
  (fX12_isIn x1 9).bind fun q1 => pm_g (q1 = 0 ∨ q1 = 1) (some q1)
set_option maxHeartbeats 4000000 in
set_option maxRecDepth 100000 in
theorem tmX12_isKind {x1 : Int} {σ : pm_M} {ρ : Int} (h : fX12_isKind x1 σ = some ρ) : pm_C mX12_isKind 1 21 [pv_r 0, pv_i x1] LAYM σ (some (pv_i ρ)) LAYM σ := by
  refine pm_C.of rfl rfl (by decide) ?_
  show pm_J mX12_isKind 1 21 LAYM (some (pv_i ρ)) LAYM σ 0 [some (pv_r 0), some (pv_i x1)] [] LAYM σ
  unfold fX12_isKind at h
  refine pr_iload_n dX12_isKind_0 rfl ?_
  refine pr_bipush dX12_isKind_1 (by decide) ?_
  obtain ⟨q1, e2, h⟩ := pm_bs h
  refine pr_callS (av := [pv_i x1, pv_i 9]) (S := []) dX12_isKind_3 mk_X12_95 rfl rfl (by decide) (by decide) (by decide) (Or.inl rfl) (tmX12_isIn e2) ?_
  obtain ⟨g_3, h⟩ := pm_gs h
  have h := Option.some.inj h
  subst h
  exact pr_zret dX12_isKind_6 rfl g_3
def fX12_kind (x1 : Int) (x2 : Int) (x3 : Int) (x4 : Int) (σ : pm_M) : Option (Int × pm_M) :=
  (fX12_isKind x1 σ).bind fun q1 => if (wr q1) = 0 then ((fX12_refuse (-1) σ).bind fun q25 => some (q25.1, q25.2)) else (if (wr x2) < 0 then ((fX12_refuse (-4) σ).bind fun q5 => some (q5.1, q5.2)) else (if (wr x3) < 1 then ((fX12_refuse (-4) σ).bind fun q8 => some (q8.1, q8.2)) else (if 1 ≤ (wr x4) then (if 20 < (wr x2) then ((fX12_refuse (-6) σ).bind fun q12 => some (q12.1, q12.2)) else (if 40 < (wr x3) then ((fX12_refuse (-6) σ).bind fun q15 => some (q15.1, q15.2)) else (if (wr x4) ≤ 30 then (pm_g (0 ≤ (wr x1) ∧ (wr x1) < 9) (pm_g (0 ≤ (wr x1) ∧ (wr x1) < 9) (pm_g (0 ≤ (wr x1) ∧ (wr x1) < 9) (some (1, (pm_up (pm_up (pm_up σ 3 (Int.toNat (wr x1)) x2) 4 (Int.toNat (wr x1)) x3) 5 (Int.toNat (wr x1)) x4)))))) else ((fX12_refuse (-6) σ).bind fun q21 => some (q21.1, q21.2))))) else ((fX12_refuse (-4) σ).bind fun q23 => some (q23.1, q23.2)))))
set_option maxHeartbeats 4000000 in
set_option maxRecDepth 100000 in
theorem tmX12_kind {x1 : Int} {x2 : Int} {x3 : Int} {x4 : Int} {σ : pm_M} {ρ : Int × pm_M} (h : fX12_kind x1 x2 x3 x4 σ = some ρ) : pm_C mX12_kind 2 42 [pv_r 0, pv_i x1, pv_i x2, pv_i x3, pv_i x4] LAYM σ (some (pv_i ρ.1)) LAYM ρ.2 := by
  refine pm_C.of rfl rfl (by decide) ?_
  show pm_J mX12_kind 2 42 LAYM (some (pv_i ρ.1)) LAYM ρ.2 0 [some (pv_r 0), some (pv_i x1), some (pv_i x2), some (pv_i x3), some (pv_i x4)] [] LAYM σ
  unfold fX12_kind at h
  refine pr_aload_n dX12_kind_0 rfl ?_
  refine pr_iload_n dX12_kind_1 rfl ?_
  obtain ⟨q1, e2, h⟩ := pm_bs h
  refine pr_callV (As := [pv_i x1]) (S := []) (t := 0) dX12_kind_2 mk_X12_111 lm_0 (ci := 12) (q := (RX12, TX12, 36)) rfl rfl rfl rfl (by decide) (by decide) (by decide) (Or.inl rfl) (tmX12_isKind e2) ?_
  refine pr_if_ne (tgt := 14) dX12_kind_5 rfl (by decide) (fun c_3 => ?_) (fun c_3 => ?_)
  · have h := pm_ng c_3 h
    refine pr_iload_n dX12_kind_14 rfl ?_
    refine pr_if_lt (tgt := 29) dX12_kind_15 rfl (by decide) (fun c_4 => ?_) (fun c_4 => ?_)
    · have h := pm_pos c_4 h
      refine pr_aload_n dX12_kind_29 rfl ?_
      refine pr_bipush dX12_kind_30 (by decide) ?_
      obtain ⟨q5, e6, h⟩ := pm_bs h
      refine pr_callV (As := [pv_i (-4)]) (S := []) (t := 0) dX12_kind_32 mk_X12_103 lm_0 (ci := 12) (q := (RX12, TX12, 36)) rfl rfl rfl rfl (by decide) (by decide) (by decide) (Or.inl rfl) (tmX12_refuse e6) ?_
      have h := Option.some.inj h
      subst h
      exact pr_iret dX12_kind_35 rfl
    · have h := pm_ng c_4 h
      refine pr_iload_n dX12_kind_18 rfl ?_
      refine pr_iconst dX12_kind_19 ?_
      refine pr_icmp_lt (tgt := 29) dX12_kind_20 rfl (wr_eq (by decide) (by decide)) (by decide) (fun c_7 => ?_) (fun c_7 => ?_)
      · have h := pm_pos c_7 h
        refine pr_aload_n dX12_kind_29 rfl ?_
        refine pr_bipush dX12_kind_30 (by decide) ?_
        obtain ⟨q8, e9, h⟩ := pm_bs h
        refine pr_callV (As := [pv_i (-4)]) (S := []) (t := 0) dX12_kind_32 mk_X12_103 lm_0 (ci := 12) (q := (RX12, TX12, 36)) rfl rfl rfl rfl (by decide) (by decide) (by decide) (Or.inl rfl) (tmX12_refuse e9) ?_
        have h := Option.some.inj h
        subst h
        exact pr_iret dX12_kind_35 rfl
      · have h := pm_ng c_7 h
        refine pr_iload dX12_kind_23 rfl ?_
        refine pr_iconst dX12_kind_25 ?_
        refine pr_icmp_ge (tgt := 36) dX12_kind_26 rfl (wr_eq (by decide) (by decide)) (by decide) (fun c_10 => ?_) (fun c_10 => ?_)
        · have h := pm_pos c_10 h
          refine pr_iload_n dX12_kind_36 rfl ?_
          refine pr_bipush dX12_kind_37 (by decide) ?_
          refine pr_icmp_gt (tgt := 55) dX12_kind_39 rfl (wr_eq (by decide) (by decide)) (by decide) (fun c_11 => ?_) (fun c_11 => ?_)
          · have h := pm_pos c_11 h
            refine pr_aload_n dX12_kind_55 rfl ?_
            refine pr_bipush dX12_kind_56 (by decide) ?_
            obtain ⟨q12, e13, h⟩ := pm_bs h
            refine pr_callV (As := [pv_i (-6)]) (S := []) (t := 0) dX12_kind_58 mk_X12_103 lm_0 (ci := 12) (q := (RX12, TX12, 36)) rfl rfl rfl rfl (by decide) (by decide) (by decide) (Or.inl rfl) (tmX12_refuse e13) ?_
            have h := Option.some.inj h
            subst h
            exact pr_iret dX12_kind_61 rfl
          · have h := pm_ng c_11 h
            refine pr_iload_n dX12_kind_42 rfl ?_
            refine pr_bipush dX12_kind_43 (by decide) ?_
            refine pr_icmp_gt (tgt := 55) dX12_kind_45 rfl (wr_eq (by decide) (by decide)) (by decide) (fun c_14 => ?_) (fun c_14 => ?_)
            · have h := pm_pos c_14 h
              refine pr_aload_n dX12_kind_55 rfl ?_
              refine pr_bipush dX12_kind_56 (by decide) ?_
              obtain ⟨q15, e16, h⟩ := pm_bs h
              refine pr_callV (As := [pv_i (-6)]) (S := []) (t := 0) dX12_kind_58 mk_X12_103 lm_0 (ci := 12) (q := (RX12, TX12, 36)) rfl rfl rfl rfl (by decide) (by decide) (by decide) (Or.inl rfl) (tmX12_refuse e16) ?_
              have h := Option.some.inj h
              subst h
              exact pr_iret dX12_kind_61 rfl
            · have h := pm_ng c_14 h
              refine pr_iload dX12_kind_48 rfl ?_
              refine pr_bipush dX12_kind_50 (by decide) ?_
              refine pr_icmp_le (tgt := 62) dX12_kind_52 rfl (wr_eq (by decide) (by decide)) (by decide) (fun c_17 => ?_) (fun c_17 => ?_)
              · have h := pm_pos c_17 h
                refine pr_aload_n dX12_kind_62 rfl ?_
                refine pr_getR dX12_kind_63 lk_X12_16 lm_0 rfl ?_
                refine pr_iload_n dX12_kind_66 rfl ?_
                refine pr_iload_n dX12_kind_67 rfl ?_
                obtain ⟨g_18, h⟩ := pm_gs h
                refine pr_iast dX12_kind_68 lm_3 rfl g_18 ?_
                refine pr_aload_n dX12_kind_69 rfl ?_
                refine pr_getR dX12_kind_70 lk_X12_19 lm_0 rfl ?_
                refine pr_iload_n dX12_kind_73 rfl ?_
                refine pr_iload_n dX12_kind_74 rfl ?_
                obtain ⟨g_19, h⟩ := pm_gs h
                refine pr_iast dX12_kind_75 lm_4 rfl g_19 ?_
                refine pr_aload_n dX12_kind_76 rfl ?_
                refine pr_getR dX12_kind_77 lk_X12_22 lm_0 rfl ?_
                refine pr_iload_n dX12_kind_80 rfl ?_
                refine pr_iload dX12_kind_81 rfl ?_
                obtain ⟨g_20, h⟩ := pm_gs h
                refine pr_iast dX12_kind_83 lm_5 rfl g_20 ?_
                refine pr_iconst dX12_kind_84 ?_
                have h := Option.some.inj h
                subst h
                exact pr_iret dX12_kind_85 rfl
              · have h := pm_ng c_17 h
                refine pr_aload_n dX12_kind_55 rfl ?_
                refine pr_bipush dX12_kind_56 (by decide) ?_
                obtain ⟨q21, e22, h⟩ := pm_bs h
                refine pr_callV (As := [pv_i (-6)]) (S := []) (t := 0) dX12_kind_58 mk_X12_103 lm_0 (ci := 12) (q := (RX12, TX12, 36)) rfl rfl rfl rfl (by decide) (by decide) (by decide) (Or.inl rfl) (tmX12_refuse e22) ?_
                have h := Option.some.inj h
                subst h
                exact pr_iret dX12_kind_61 rfl
        · have h := pm_ng c_10 h
          refine pr_aload_n dX12_kind_29 rfl ?_
          refine pr_bipush dX12_kind_30 (by decide) ?_
          obtain ⟨q23, e24, h⟩ := pm_bs h
          refine pr_callV (As := [pv_i (-4)]) (S := []) (t := 0) dX12_kind_32 mk_X12_103 lm_0 (ci := 12) (q := (RX12, TX12, 36)) rfl rfl rfl rfl (by decide) (by decide) (by decide) (Or.inl rfl) (tmX12_refuse e24) ?_
          have h := Option.some.inj h
          subst h
          exact pr_iret dX12_kind_35 rfl
  · have h := pm_pos c_3 h
    refine pr_aload_n dX12_kind_8 rfl ?_
    refine pr_iconst dX12_kind_9 ?_
    obtain ⟨q25, e26, h⟩ := pm_bs h
    refine pr_callV (As := [pv_i (-1)]) (S := []) (t := 0) dX12_kind_10 mk_X12_103 lm_0 (ci := 12) (q := (RX12, TX12, 36)) rfl rfl rfl rfl (by decide) (by decide) (by decide) (Or.inl rfl) (tmX12_refuse e26) ?_
    have h := Option.some.inj h
    subst h
    exact pr_iret dX12_kind_13 rfl
def jnX12_rags_27 (w1 : Int) (w2 : Int) (u0 : Int) (σ : pm_M) : Option (Int × pm_M) :=
  if (wr u0) = 0 then (pm_g (0 ≤ (wr w1) ∧ (wr w1) < 9) (pm_g (0 ≤ (wr w1) ∧ (wr w1) < 9) (pm_g (0 ≤ (wr w1) ∧ (wr w1) < 9) (some (((pm_up σ 6 (Int.toNat (wr w1)) ((σ 6 (Int.toNat (wr w1))) + w2)) 6 (Int.toNat (wr w1))), (pm_up σ 6 (Int.toNat (wr w1)) ((σ 6 (Int.toNat (wr w1))) + w2))))))) else ((fX12_refuse u0 σ).bind fun q8 => some (q8.1, q8.2))
set_option maxHeartbeats 4000000 in
set_option maxRecDepth 100000 in
theorem tjX12_rags_27 {lay0 : List pm_S} {w1 : Int} {w2 : Int} {u0 : Int} {σ : pm_M} {ρ : Int × pm_M} (h : jnX12_rags_27 w1 w2 u0 σ = some ρ) : pm_J mX12_rags 2 42 lay0 (some (pv_i ρ.1)) LAYM ρ.2 27 [some (pv_r 0), some (pv_i w1), some (pv_i w2), none] [pv_i u0] LAYM σ := by
  unfold jnX12_rags_27 at h
  refine pr_istore_n dX12_rags_27 (by decide) rfl ?_
  refine pr_iload_n dX12_rags_28 rfl ?_
  refine pr_if_eq (tgt := 38) dX12_rags_29 rfl (by decide) (fun c_4 => ?_) (fun c_4 => ?_)
  · have h := pm_pos c_4 h
    refine pr_aload_n dX12_rags_38 rfl ?_
    refine pr_getR dX12_rags_39 lk_X12_25 lm_0 rfl ?_
    refine pr_iload_n dX12_rags_42 rfl ?_
    refine pr_dup2 dX12_rags_43 rfl rfl ?_
    obtain ⟨g_5, h⟩ := pm_gs h
    refine pr_iald dX12_rags_44 lm_6 rfl g_5 ?_
    refine pr_iload_n dX12_rags_45 rfl ?_
    refine pr_iadd dX12_rags_46 ?_
    obtain ⟨g_6, h⟩ := pm_gs h
    refine pr_iast dX12_rags_47 lm_6 rfl g_6 ?_
    refine pr_aload_n dX12_rags_48 rfl ?_
    refine pr_getR dX12_rags_49 lk_X12_25 lm_0 rfl ?_
    refine pr_iload_n dX12_rags_52 rfl ?_
    obtain ⟨g_7, h⟩ := pm_gs h
    refine pr_iald dX12_rags_53 lm_6 rfl g_7 ?_
    have h := Option.some.inj h
    subst h
    exact pr_iret dX12_rags_54 rfl
  · have h := pm_ng c_4 h
    refine pr_aload_n dX12_rags_32 rfl ?_
    refine pr_iload_n dX12_rags_33 rfl ?_
    obtain ⟨q8, e9, h⟩ := pm_bs h
    refine pr_callV (As := [pv_i u0]) (S := []) (t := 0) dX12_rags_34 mk_X12_103 lm_0 (ci := 12) (q := (RX12, TX12, 36)) rfl rfl rfl rfl (by decide) (by decide) (by decide) (Or.inl rfl) (tmX12_refuse e9) ?_
    have h := Option.some.inj h
    subst h
    exact pr_iret dX12_rags_37 rfl
def fX12_rags (x1 : Int) (x2 : Int) (σ : pm_M) : Option (Int × pm_M) :=
  (fX12_isKind x1 σ).bind fun q1 => if (wr q1) = 0 then (jnX12_rags_27 x1 x2 (-1) σ) else (pm_g (0 ≤ (wr x1) ∧ (wr x1) < 9) ((fX12_wrong x2 1 (20000 - (σ 6 (Int.toNat (wr x1))))).bind fun q11 => jnX12_rags_27 x1 x2 q11 σ))
set_option maxHeartbeats 4000000 in
set_option maxRecDepth 100000 in
theorem tmX12_rags {x1 : Int} {x2 : Int} {σ : pm_M} {ρ : Int × pm_M} (h : fX12_rags x1 x2 σ = some ρ) : pm_C mX12_rags 2 42 [pv_r 0, pv_i x1, pv_i x2] LAYM σ (some (pv_i ρ.1)) LAYM ρ.2 := by
  refine pm_C.of rfl rfl (by decide) ?_
  show pm_J mX12_rags 2 42 LAYM (some (pv_i ρ.1)) LAYM ρ.2 0 [some (pv_r 0), some (pv_i x1), some (pv_i x2), none] [] LAYM σ
  unfold fX12_rags at h
  refine pr_aload_n dX12_rags_0 rfl ?_
  refine pr_iload_n dX12_rags_1 rfl ?_
  obtain ⟨q1, e2, h⟩ := pm_bs h
  refine pr_callV (As := [pv_i x1]) (S := []) (t := 0) dX12_rags_2 mk_X12_111 lm_0 (ci := 12) (q := (RX12, TX12, 36)) rfl rfl rfl rfl (by decide) (by decide) (by decide) (Or.inl rfl) (tmX12_isKind e2) ?_
  refine pr_if_eq (tgt := 26) dX12_rags_5 rfl (by decide) (fun c_3 => ?_) (fun c_3 => ?_)
  · have h := pm_pos c_3 h
    refine pr_iconst dX12_rags_26 ?_
    refine pr_weak (L2 := [some (pv_r 0), some (pv_i x1), some (pv_i x2), none]) ⟨Or.inr rfl, Or.inr rfl, Or.inr rfl, Or.inl rfl, trivial⟩ ?_
    exact tjX12_rags_27 h
  · have h := pm_ng c_3 h
    refine pr_iload_n dX12_rags_8 rfl ?_
    refine pr_iconst dX12_rags_9 ?_
    refine pr_sipush dX12_rags_10 (by decide) ?_
    refine pr_aload_n dX12_rags_13 rfl ?_
    refine pr_getR dX12_rags_14 lk_X12_25 lm_0 rfl ?_
    refine pr_iload_n dX12_rags_17 rfl ?_
    obtain ⟨g_10, h⟩ := pm_gs h
    refine pr_iald dX12_rags_18 lm_6 rfl g_10 ?_
    refine pr_isub dX12_rags_19 ?_
    obtain ⟨q11, e12, h⟩ := pm_bs h
    refine pr_callS (av := [pv_i x2, pv_i 1, pv_i (20000 - (σ 6 (Int.toNat (wr x1))))]) (S := []) dX12_rags_20 mk_X12_99 rfl rfl (by decide) (by decide) (by decide) (Or.inl rfl) (tmX12_wrong e12) ?_
    refine pr_goto (tgt := 27) dX12_rags_23 (by decide) ?_
    refine pr_weak (L2 := [some (pv_r 0), some (pv_i x1), some (pv_i x2), none]) ⟨Or.inr rfl, Or.inr rfl, Or.inr rfl, Or.inl rfl, trivial⟩ ?_
    exact tjX12_rags_27 h
def jnX12_heap_54 (w1 : Int) (w2 : Int) (u0 : Int) (σ : pm_M) : Option (Int × pm_M) :=
  if (wr u0) = 0 then (pm_g (0 ≤ (wr w1) ∧ (wr w1) < 9) (pm_g (0 ≤ (wr w1) ∧ (wr w1) < 9) (pm_g (0 ≤ (wr ((pm_up σ 6 (Int.toNat (wr w1)) ((σ 6 (Int.toNat (wr w1))) - w2)) 0 15)) ∧ (wr ((pm_up σ 6 (Int.toNat (wr w1)) ((σ 6 (Int.toNat (wr w1))) - w2)) 0 15)) < 40) (pm_g (0 ≤ (wr ((pm_up (pm_up σ 6 (Int.toNat (wr w1)) ((σ 6 (Int.toNat (wr w1))) - w2)) 9 (Int.toNat (wr ((pm_up σ 6 (Int.toNat (wr w1)) ((σ 6 (Int.toNat (wr w1))) - w2)) 0 15))) w1) 0 15)) ∧ (wr ((pm_up (pm_up σ 6 (Int.toNat (wr w1)) ((σ 6 (Int.toNat (wr w1))) - w2)) 9 (Int.toNat (wr ((pm_up σ 6 (Int.toNat (wr w1)) ((σ 6 (Int.toNat (wr w1))) - w2)) 0 15))) w1) 0 15)) < 40) (pm_g (0 ≤ (wr (0 + ((pm_up (pm_up (pm_up σ 6 (Int.toNat (wr w1)) ((σ 6 (Int.toNat (wr w1))) - w2)) 9 (Int.toNat (wr ((pm_up σ 6 (Int.toNat (wr w1)) ((σ 6 (Int.toNat (wr w1))) - w2)) 0 15))) w1) 10 (Int.toNat (wr ((pm_up (pm_up σ 6 (Int.toNat (wr w1)) ((σ 6 (Int.toNat (wr w1))) - w2)) 9 (Int.toNat (wr ((pm_up σ 6 (Int.toNat (wr w1)) ((σ 6 (Int.toNat (wr w1))) - w2)) 0 15))) w1) 0 15))) ((pm_up (pm_up σ 6 (Int.toNat (wr w1)) ((σ 6 (Int.toNat (wr w1))) - w2)) 9 (Int.toNat (wr ((pm_up σ 6 (Int.toNat (wr w1)) ((σ 6 (Int.toNat (wr w1))) - w2)) 0 15))) w1) 25 (Int.toNat 751))) 0 15))) ∧ (wr (0 + ((pm_up (pm_up (pm_up σ 6 (Int.toNat (wr w1)) ((σ 6 (Int.toNat (wr w1))) - w2)) 9 (Int.toNat (wr ((pm_up σ 6 (Int.toNat (wr w1)) ((σ 6 (Int.toNat (wr w1))) - w2)) 0 15))) w1) 10 (Int.toNat (wr ((pm_up (pm_up σ 6 (Int.toNat (wr w1)) ((σ 6 (Int.toNat (wr w1))) - w2)) 9 (Int.toNat (wr ((pm_up σ 6 (Int.toNat (wr w1)) ((σ 6 (Int.toNat (wr w1))) - w2)) 0 15))) w1) 0 15))) ((pm_up (pm_up σ 6 (Int.toNat (wr w1)) ((σ 6 (Int.toNat (wr w1))) - w2)) 9 (Int.toNat (wr ((pm_up σ 6 (Int.toNat (wr w1)) ((σ 6 (Int.toNat (wr w1))) - w2)) 0 15))) w1) 25 (Int.toNat 751))) 0 15))) < 755) (some ((((pm_up (pm_up (pm_up (pm_up (pm_up σ 6 (Int.toNat (wr w1)) ((σ 6 (Int.toNat (wr w1))) - w2)) 9 (Int.toNat (wr ((pm_up σ 6 (Int.toNat (wr w1)) ((σ 6 (Int.toNat (wr w1))) - w2)) 0 15))) w1) 10 (Int.toNat (wr ((pm_up (pm_up σ 6 (Int.toNat (wr w1)) ((σ 6 (Int.toNat (wr w1))) - w2)) 9 (Int.toNat (wr ((pm_up σ 6 (Int.toNat (wr w1)) ((σ 6 (Int.toNat (wr w1))) - w2)) 0 15))) w1) 0 15))) ((pm_up (pm_up σ 6 (Int.toNat (wr w1)) ((σ 6 (Int.toNat (wr w1))) - w2)) 9 (Int.toNat (wr ((pm_up σ 6 (Int.toNat (wr w1)) ((σ 6 (Int.toNat (wr w1))) - w2)) 0 15))) w1) 25 (Int.toNat 751))) 25 (Int.toNat (wr (0 + ((pm_up (pm_up (pm_up σ 6 (Int.toNat (wr w1)) ((σ 6 (Int.toNat (wr w1))) - w2)) 9 (Int.toNat (wr ((pm_up σ 6 (Int.toNat (wr w1)) ((σ 6 (Int.toNat (wr w1))) - w2)) 0 15))) w1) 10 (Int.toNat (wr ((pm_up (pm_up σ 6 (Int.toNat (wr w1)) ((σ 6 (Int.toNat (wr w1))) - w2)) 9 (Int.toNat (wr ((pm_up σ 6 (Int.toNat (wr w1)) ((σ 6 (Int.toNat (wr w1))) - w2)) 0 15))) w1) 0 15))) ((pm_up (pm_up σ 6 (Int.toNat (wr w1)) ((σ 6 (Int.toNat (wr w1))) - w2)) 9 (Int.toNat (wr ((pm_up σ 6 (Int.toNat (wr w1)) ((σ 6 (Int.toNat (wr w1))) - w2)) 0 15))) w1) 25 (Int.toNat 751))) 0 15)))) w2) 0 15 (((pm_up (pm_up (pm_up (pm_up σ 6 (Int.toNat (wr w1)) ((σ 6 (Int.toNat (wr w1))) - w2)) 9 (Int.toNat (wr ((pm_up σ 6 (Int.toNat (wr w1)) ((σ 6 (Int.toNat (wr w1))) - w2)) 0 15))) w1) 10 (Int.toNat (wr ((pm_up (pm_up σ 6 (Int.toNat (wr w1)) ((σ 6 (Int.toNat (wr w1))) - w2)) 9 (Int.toNat (wr ((pm_up σ 6 (Int.toNat (wr w1)) ((σ 6 (Int.toNat (wr w1))) - w2)) 0 15))) w1) 0 15))) ((pm_up (pm_up σ 6 (Int.toNat (wr w1)) ((σ 6 (Int.toNat (wr w1))) - w2)) 9 (Int.toNat (wr ((pm_up σ 6 (Int.toNat (wr w1)) ((σ 6 (Int.toNat (wr w1))) - w2)) 0 15))) w1) 25 (Int.toNat 751))) 25 (Int.toNat (wr (0 + ((pm_up (pm_up (pm_up σ 6 (Int.toNat (wr w1)) ((σ 6 (Int.toNat (wr w1))) - w2)) 9 (Int.toNat (wr ((pm_up σ 6 (Int.toNat (wr w1)) ((σ 6 (Int.toNat (wr w1))) - w2)) 0 15))) w1) 10 (Int.toNat (wr ((pm_up (pm_up σ 6 (Int.toNat (wr w1)) ((σ 6 (Int.toNat (wr w1))) - w2)) 9 (Int.toNat (wr ((pm_up σ 6 (Int.toNat (wr w1)) ((σ 6 (Int.toNat (wr w1))) - w2)) 0 15))) w1) 0 15))) ((pm_up (pm_up σ 6 (Int.toNat (wr w1)) ((σ 6 (Int.toNat (wr w1))) - w2)) 9 (Int.toNat (wr ((pm_up σ 6 (Int.toNat (wr w1)) ((σ 6 (Int.toNat (wr w1))) - w2)) 0 15))) w1) 25 (Int.toNat 751))) 0 15)))) w2) 0 15) + 1)) 0 15) - 1), (pm_up (pm_up (pm_up (pm_up (pm_up σ 6 (Int.toNat (wr w1)) ((σ 6 (Int.toNat (wr w1))) - w2)) 9 (Int.toNat (wr ((pm_up σ 6 (Int.toNat (wr w1)) ((σ 6 (Int.toNat (wr w1))) - w2)) 0 15))) w1) 10 (Int.toNat (wr ((pm_up (pm_up σ 6 (Int.toNat (wr w1)) ((σ 6 (Int.toNat (wr w1))) - w2)) 9 (Int.toNat (wr ((pm_up σ 6 (Int.toNat (wr w1)) ((σ 6 (Int.toNat (wr w1))) - w2)) 0 15))) w1) 0 15))) ((pm_up (pm_up σ 6 (Int.toNat (wr w1)) ((σ 6 (Int.toNat (wr w1))) - w2)) 9 (Int.toNat (wr ((pm_up σ 6 (Int.toNat (wr w1)) ((σ 6 (Int.toNat (wr w1))) - w2)) 0 15))) w1) 25 (Int.toNat 751))) 25 (Int.toNat (wr (0 + ((pm_up (pm_up (pm_up σ 6 (Int.toNat (wr w1)) ((σ 6 (Int.toNat (wr w1))) - w2)) 9 (Int.toNat (wr ((pm_up σ 6 (Int.toNat (wr w1)) ((σ 6 (Int.toNat (wr w1))) - w2)) 0 15))) w1) 10 (Int.toNat (wr ((pm_up (pm_up σ 6 (Int.toNat (wr w1)) ((σ 6 (Int.toNat (wr w1))) - w2)) 9 (Int.toNat (wr ((pm_up σ 6 (Int.toNat (wr w1)) ((σ 6 (Int.toNat (wr w1))) - w2)) 0 15))) w1) 0 15))) ((pm_up (pm_up σ 6 (Int.toNat (wr w1)) ((σ 6 (Int.toNat (wr w1))) - w2)) 9 (Int.toNat (wr ((pm_up σ 6 (Int.toNat (wr w1)) ((σ 6 (Int.toNat (wr w1))) - w2)) 0 15))) w1) 25 (Int.toNat 751))) 0 15)))) w2) 0 15 (((pm_up (pm_up (pm_up (pm_up σ 6 (Int.toNat (wr w1)) ((σ 6 (Int.toNat (wr w1))) - w2)) 9 (Int.toNat (wr ((pm_up σ 6 (Int.toNat (wr w1)) ((σ 6 (Int.toNat (wr w1))) - w2)) 0 15))) w1) 10 (Int.toNat (wr ((pm_up (pm_up σ 6 (Int.toNat (wr w1)) ((σ 6 (Int.toNat (wr w1))) - w2)) 9 (Int.toNat (wr ((pm_up σ 6 (Int.toNat (wr w1)) ((σ 6 (Int.toNat (wr w1))) - w2)) 0 15))) w1) 0 15))) ((pm_up (pm_up σ 6 (Int.toNat (wr w1)) ((σ 6 (Int.toNat (wr w1))) - w2)) 9 (Int.toNat (wr ((pm_up σ 6 (Int.toNat (wr w1)) ((σ 6 (Int.toNat (wr w1))) - w2)) 0 15))) w1) 25 (Int.toNat 751))) 25 (Int.toNat (wr (0 + ((pm_up (pm_up (pm_up σ 6 (Int.toNat (wr w1)) ((σ 6 (Int.toNat (wr w1))) - w2)) 9 (Int.toNat (wr ((pm_up σ 6 (Int.toNat (wr w1)) ((σ 6 (Int.toNat (wr w1))) - w2)) 0 15))) w1) 10 (Int.toNat (wr ((pm_up (pm_up σ 6 (Int.toNat (wr w1)) ((σ 6 (Int.toNat (wr w1))) - w2)) 9 (Int.toNat (wr ((pm_up σ 6 (Int.toNat (wr w1)) ((σ 6 (Int.toNat (wr w1))) - w2)) 0 15))) w1) 0 15))) ((pm_up (pm_up σ 6 (Int.toNat (wr w1)) ((σ 6 (Int.toNat (wr w1))) - w2)) 9 (Int.toNat (wr ((pm_up σ 6 (Int.toNat (wr w1)) ((σ 6 (Int.toNat (wr w1))) - w2)) 0 15))) w1) 25 (Int.toNat 751))) 0 15)))) w2) 0 15) + 1))))))))) else ((fX12_refuse u0 σ).bind fun q12 => some (q12.1, q12.2))
set_option maxHeartbeats 4000000 in
set_option maxRecDepth 100000 in
theorem tjX12_heap_54 {lay0 : List pm_S} {w1 : Int} {w2 : Int} {u0 : Int} {σ : pm_M} {ρ : Int × pm_M} (h : jnX12_heap_54 w1 w2 u0 σ = some ρ) : pm_J mX12_heap 2 42 lay0 (some (pv_i ρ.1)) LAYM ρ.2 54 [some (pv_r 0), some (pv_i w1), some (pv_i w2), none] [pv_i u0] LAYM σ := by
  unfold jnX12_heap_54 at h
  refine pr_istore_n dX12_heap_54 (by decide) rfl ?_
  refine pr_iload_n dX12_heap_55 rfl ?_
  refine pr_if_eq (tgt := 65) dX12_heap_56 rfl (by decide) (fun c_6 => ?_) (fun c_6 => ?_)
  · have h := pm_pos c_6 h
    refine pr_aload_n dX12_heap_65 rfl ?_
    refine pr_getR dX12_heap_66 lk_X12_25 lm_0 rfl ?_
    refine pr_iload_n dX12_heap_69 rfl ?_
    refine pr_dup2 dX12_heap_70 rfl rfl ?_
    obtain ⟨g_7, h⟩ := pm_gs h
    refine pr_iald dX12_heap_71 lm_6 rfl g_7 ?_
    refine pr_iload_n dX12_heap_72 rfl ?_
    refine pr_isub dX12_heap_73 ?_
    obtain ⟨g_8, h⟩ := pm_gs h
    refine pr_iast dX12_heap_74 lm_6 rfl g_8 ?_
    refine pr_aload_n dX12_heap_75 rfl ?_
    refine pr_getR dX12_heap_76 lk_X12_34 lm_0 rfl ?_
    refine pr_aload_n dX12_heap_79 rfl ?_
    refine pr_getI dX12_heap_80 lk_X12_115 lm_0 rfl ?_
    refine pr_iload_n dX12_heap_83 rfl ?_
    obtain ⟨g_9, h⟩ := pm_gs h
    refine pr_iast dX12_heap_84 lm_9 rfl g_9 ?_
    refine pr_aload_n dX12_heap_85 rfl ?_
    refine pr_getR dX12_heap_86 lk_X12_37 lm_0 rfl ?_
    refine pr_aload_n dX12_heap_89 rfl ?_
    refine pr_getI dX12_heap_90 lk_X12_115 lm_0 rfl ?_
    refine pr_aload_n dX12_heap_93 rfl ?_
    refine pr_getR dX12_heap_94 lk_X12_86 lm_0 rfl ?_
    refine pr_sipush dX12_heap_97 (by decide) ?_
    refine pr_iald dX12_heap_100 lm_25 (wr_eq (by decide) (by decide)) ⟨by decide, by decide⟩ ?_
    obtain ⟨g_10, h⟩ := pm_gs h
    refine pr_iast dX12_heap_101 lm_10 rfl g_10 ?_
    refine pr_aload_n dX12_heap_102 rfl ?_
    refine pr_getR dX12_heap_103 lk_X12_86 lm_0 rfl ?_
    refine pr_iconst dX12_heap_106 ?_
    refine pr_aload_n dX12_heap_107 rfl ?_
    refine pr_getI dX12_heap_108 lk_X12_115 lm_0 rfl ?_
    refine pr_iadd dX12_heap_111 ?_
    refine pr_iload_n dX12_heap_112 rfl ?_
    obtain ⟨g_11, h⟩ := pm_gs h
    refine pr_iast dX12_heap_113 lm_25 rfl g_11 ?_
    refine pr_aload_n dX12_heap_114 rfl ?_
    refine pr_dup dX12_heap_115 rfl ?_
    refine pr_getI dX12_heap_116 lk_X12_115 lm_0 rfl ?_
    refine pr_iconst dX12_heap_119 ?_
    refine pr_iadd dX12_heap_120 ?_
    refine pr_putI dX12_heap_121 lp_X12_115 lm_0 rfl ?_
    refine pr_aload_n dX12_heap_124 rfl ?_
    refine pr_getI dX12_heap_125 lk_X12_115 lm_0 rfl ?_
    refine pr_iconst dX12_heap_128 ?_
    refine pr_isub dX12_heap_129 ?_
    have h := Option.some.inj h
    subst h
    exact pr_iret dX12_heap_130 rfl
  · have h := pm_ng c_6 h
    refine pr_aload_n dX12_heap_59 rfl ?_
    refine pr_iload_n dX12_heap_60 rfl ?_
    obtain ⟨q12, e13, h⟩ := pm_bs h
    refine pr_callV (As := [pv_i u0]) (S := []) (t := 0) dX12_heap_61 mk_X12_103 lm_0 (ci := 12) (q := (RX12, TX12, 36)) rfl rfl rfl rfl (by decide) (by decide) (by decide) (Or.inl rfl) (tmX12_refuse e13) ?_
    have h := Option.some.inj h
    subst h
    exact pr_iret dX12_heap_64 rfl
def jnX12_heap_48 (w1 : Int) (w2 : Int) (σ : pm_M) : Option (Int × pm_M) :=
  jnX12_heap_54 w1 w2 (-6) σ
set_option maxHeartbeats 4000000 in
set_option maxRecDepth 100000 in
theorem tjX12_heap_48 {lay0 : List pm_S} {w1 : Int} {w2 : Int} {σ : pm_M} {ρ : Int × pm_M} (h : jnX12_heap_48 w1 w2 σ = some ρ) : pm_J mX12_heap 2 42 lay0 (some (pv_i ρ.1)) LAYM ρ.2 48 [some (pv_r 0), some (pv_i w1), some (pv_i w2), none] [] LAYM σ := by
  unfold jnX12_heap_48 at h
  refine pr_bipush dX12_heap_48 (by decide) ?_
  refine pr_goto (tgt := 54) dX12_heap_50 (by decide) ?_
  refine pr_weak (L2 := [some (pv_r 0), some (pv_i w1), some (pv_i w2), none]) ⟨Or.inr rfl, Or.inr rfl, Or.inr rfl, Or.inl rfl, trivial⟩ ?_
  exact tjX12_heap_54 h
def fX12_heap (x1 : Int) (x2 : Int) (σ : pm_M) : Option (Int × pm_M) :=
  (fX12_isKind x1 σ).bind fun q1 => if (wr q1) = 0 then (jnX12_heap_54 x1 x2 (-1) σ) else (if 1 ≤ (wr x2) then (if 400 < (wr x2) then (jnX12_heap_48 x1 x2 σ) else (pm_g (0 ≤ (wr x1) ∧ (wr x1) < 9) (if (wr (σ 6 (Int.toNat (wr x1)))) < (wr x2) then (jnX12_heap_48 x1 x2 σ) else (if (wr (σ 0 15)) = 40 then (jnX12_heap_48 x1 x2 σ) else (jnX12_heap_54 x1 x2 0 σ))))) else (jnX12_heap_54 x1 x2 (-4) σ))
set_option maxHeartbeats 4000000 in
set_option maxRecDepth 100000 in
theorem tmX12_heap {x1 : Int} {x2 : Int} {σ : pm_M} {ρ : Int × pm_M} (h : fX12_heap x1 x2 σ = some ρ) : pm_C mX12_heap 2 42 [pv_r 0, pv_i x1, pv_i x2] LAYM σ (some (pv_i ρ.1)) LAYM ρ.2 := by
  refine pm_C.of rfl rfl (by decide) ?_
  show pm_J mX12_heap 2 42 LAYM (some (pv_i ρ.1)) LAYM ρ.2 0 [some (pv_r 0), some (pv_i x1), some (pv_i x2), none] [] LAYM σ
  unfold fX12_heap at h
  refine pr_aload_n dX12_heap_0 rfl ?_
  refine pr_iload_n dX12_heap_1 rfl ?_
  obtain ⟨q1, e2, h⟩ := pm_bs h
  refine pr_callV (As := [pv_i x1]) (S := []) (t := 0) dX12_heap_2 mk_X12_111 lm_0 (ci := 12) (q := (RX12, TX12, 36)) rfl rfl rfl rfl (by decide) (by decide) (by decide) (Or.inl rfl) (tmX12_isKind e2) ?_
  refine pr_if_ne (tgt := 12) dX12_heap_5 rfl (by decide) (fun c_3 => ?_) (fun c_3 => ?_)
  · have h := pm_ng c_3 h
    refine pr_iload_n dX12_heap_12 rfl ?_
    refine pr_iconst dX12_heap_13 ?_
    refine pr_icmp_ge (tgt := 22) dX12_heap_14 rfl (wr_eq (by decide) (by decide)) (by decide) (fun c_4 => ?_) (fun c_4 => ?_)
    · have h := pm_pos c_4 h
      refine pr_iload_n dX12_heap_22 rfl ?_
      refine pr_sipush dX12_heap_23 (by decide) ?_
      refine pr_icmp_gt (tgt := 48) dX12_heap_26 rfl (wr_eq (by decide) (by decide)) (by decide) (fun c_5 => ?_) (fun c_5 => ?_)
      · have h := pm_pos c_5 h
        refine pr_weak (L2 := [some (pv_r 0), some (pv_i x1), some (pv_i x2), none]) ⟨Or.inr rfl, Or.inr rfl, Or.inr rfl, Or.inl rfl, trivial⟩ ?_
        exact tjX12_heap_48 h
      · have h := pm_ng c_5 h
        refine pr_iload_n dX12_heap_29 rfl ?_
        refine pr_aload_n dX12_heap_30 rfl ?_
        refine pr_getR dX12_heap_31 lk_X12_25 lm_0 rfl ?_
        refine pr_iload_n dX12_heap_34 rfl ?_
        obtain ⟨g_14, h⟩ := pm_gs h
        refine pr_iald dX12_heap_35 lm_6 rfl g_14 ?_
        refine pr_icmp_gt (tgt := 48) dX12_heap_36 rfl rfl (by decide) (fun c_15 => ?_) (fun c_15 => ?_)
        · have h := pm_pos c_15 h
          refine pr_weak (L2 := [some (pv_r 0), some (pv_i x1), some (pv_i x2), none]) ⟨Or.inr rfl, Or.inr rfl, Or.inr rfl, Or.inl rfl, trivial⟩ ?_
          exact tjX12_heap_48 h
        · have h := pm_ng c_15 h
          refine pr_aload_n dX12_heap_39 rfl ?_
          refine pr_getI dX12_heap_40 lk_X12_115 lm_0 rfl ?_
          refine pr_bipush dX12_heap_43 (by decide) ?_
          refine pr_icmp_ne (tgt := 53) dX12_heap_45 rfl (wr_eq (by decide) (by decide)) (by decide) (fun c_16 => ?_) (fun c_16 => ?_)
          · have h := pm_ng c_16 h
            refine pr_iconst dX12_heap_53 ?_
            refine pr_weak (L2 := [some (pv_r 0), some (pv_i x1), some (pv_i x2), none]) ⟨Or.inr rfl, Or.inr rfl, Or.inr rfl, Or.inl rfl, trivial⟩ ?_
            exact tjX12_heap_54 h
          · have h := pm_pos c_16 h
            refine pr_weak (L2 := [some (pv_r 0), some (pv_i x1), some (pv_i x2), none]) ⟨Or.inr rfl, Or.inr rfl, Or.inr rfl, Or.inl rfl, trivial⟩ ?_
            exact tjX12_heap_48 h
    · have h := pm_ng c_4 h
      refine pr_bipush dX12_heap_17 (by decide) ?_
      refine pr_goto (tgt := 54) dX12_heap_19 (by decide) ?_
      refine pr_weak (L2 := [some (pv_r 0), some (pv_i x1), some (pv_i x2), none]) ⟨Or.inr rfl, Or.inr rfl, Or.inr rfl, Or.inl rfl, trivial⟩ ?_
      exact tjX12_heap_54 h
  · have h := pm_pos c_3 h
    refine pr_iconst dX12_heap_8 ?_
    refine pr_goto (tgt := 54) dX12_heap_9 (by decide) ?_
    refine pr_weak (L2 := [some (pv_r 0), some (pv_i x1), some (pv_i x2), none]) ⟨Or.inr rfl, Or.inr rfl, Or.inr rfl, Or.inl rfl, trivial⟩ ?_
    exact tjX12_heap_54 h
def fX12_age (x1 : Int) (σ : pm_M) : Option (Int) :=
  pm_g (0 ≤ (wr x1) ∧ (wr x1) < 40) (some (Int.tdiv (wr ((σ 25 (Int.toNat 751)) - (σ 10 (Int.toNat (wr x1))))) 24))
set_option maxHeartbeats 4000000 in
set_option maxRecDepth 100000 in
theorem tmX12_age {x1 : Int} {σ : pm_M} {ρ : Int} (h : fX12_age x1 σ = some ρ) : pm_C mX12_age 0 0 [pv_r 0, pv_i x1] LAYM σ (some (pv_i ρ)) LAYM σ := by
  refine pm_C.of rfl rfl (by decide) ?_
  show pm_J mX12_age 0 0 LAYM (some (pv_i ρ)) LAYM σ 0 [some (pv_r 0), some (pv_i x1)] [] LAYM σ
  unfold fX12_age at h
  refine pr_aload_n dX12_age_0 rfl ?_
  refine pr_getR dX12_age_1 lk_X12_86 lm_0 rfl ?_
  refine pr_sipush dX12_age_4 (by decide) ?_
  refine pr_iald dX12_age_7 lm_25 (wr_eq (by decide) (by decide)) ⟨by decide, by decide⟩ ?_
  refine pr_aload_n dX12_age_8 rfl ?_
  refine pr_getR dX12_age_9 lk_X12_37 lm_0 rfl ?_
  refine pr_iload_n dX12_age_12 rfl ?_
  obtain ⟨g_1, h⟩ := pm_gs h
  refine pr_iald dX12_age_13 lm_10 rfl g_1 ?_
  refine pr_isub dX12_age_14 ?_
  refine pr_bipush dX12_age_15 (by decide) ?_
  refine pr_idiv dX12_age_17 rfl (wr_eq (by decide) (by decide)) (by decide) ?_
  have h := Option.some.inj h
  subst h
  exact pr_iret dX12_age_18 rfl
def fX12_isRipe (x1 : Int) (σ : pm_M) : Option (Int) :=
  pm_g (0 ≤ (wr (0 + x1)) ∧ (wr (0 + x1)) < 755) (if (wr (σ 25 (Int.toNat (wr (0 + x1))))) ≤ 0 then (some 0) else ((fX12_age x1 σ).bind fun q3 => pm_g (0 ≤ (wr x1) ∧ (wr x1) < 40) (pm_g (0 ≤ (wr (σ 9 (Int.toNat (wr x1)))) ∧ (wr (σ 9 (Int.toNat (wr x1)))) < 9) (if (wr q3) < (wr (σ 3 (Int.toNat (wr (σ 9 (Int.toNat (wr x1))))))) then (some 0) else (some 1)))))
set_option maxHeartbeats 4000000 in
set_option maxRecDepth 100000 in
theorem tmX12_isRipe {x1 : Int} {σ : pm_M} {ρ : Int} (h : fX12_isRipe x1 σ = some ρ) : pm_C mX12_isRipe 1 21 [pv_r 0, pv_i x1] LAYM σ (some (pv_i ρ)) LAYM σ := by
  refine pm_C.of rfl rfl (by decide) ?_
  show pm_J mX12_isRipe 1 21 LAYM (some (pv_i ρ)) LAYM σ 0 [some (pv_r 0), some (pv_i x1)] [] LAYM σ
  unfold fX12_isRipe at h
  refine pr_aload_n dX12_isRipe_0 rfl ?_
  refine pr_getR dX12_isRipe_1 lk_X12_86 lm_0 rfl ?_
  refine pr_iconst dX12_isRipe_4 ?_
  refine pr_iload_n dX12_isRipe_5 rfl ?_
  refine pr_iadd dX12_isRipe_6 ?_
  obtain ⟨g_1, h⟩ := pm_gs h
  refine pr_iald dX12_isRipe_7 lm_25 rfl g_1 ?_
  refine pr_if_le (tgt := 34) dX12_isRipe_8 rfl (by decide) (fun c_2 => ?_) (fun c_2 => ?_)
  · have h := pm_pos c_2 h
    refine pr_iconst dX12_isRipe_34 ?_
    have h := Option.some.inj h
    subst h
    exact pr_zret dX12_isRipe_35 rfl (Or.inl rfl)
  · have h := pm_ng c_2 h
    refine pr_aload_n dX12_isRipe_11 rfl ?_
    refine pr_iload_n dX12_isRipe_12 rfl ?_
    obtain ⟨q3, e4, h⟩ := pm_bs h
    refine pr_callV (As := [pv_i x1]) (S := []) (t := 0) dX12_isRipe_13 mk_X12_118 lm_0 (ci := 12) (q := (RX12, TX12, 36)) rfl rfl rfl rfl (by decide) (by decide) (by decide) (Or.inl rfl) (tmX12_age e4) ?_
    refine pr_aload_n dX12_isRipe_16 rfl ?_
    refine pr_getR dX12_isRipe_17 lk_X12_16 lm_0 rfl ?_
    refine pr_aload_n dX12_isRipe_20 rfl ?_
    refine pr_getR dX12_isRipe_21 lk_X12_34 lm_0 rfl ?_
    refine pr_iload_n dX12_isRipe_24 rfl ?_
    obtain ⟨g_5, h⟩ := pm_gs h
    refine pr_iald dX12_isRipe_25 lm_9 rfl g_5 ?_
    obtain ⟨g_6, h⟩ := pm_gs h
    refine pr_iald dX12_isRipe_26 lm_3 rfl g_6 ?_
    refine pr_icmp_lt (tgt := 34) dX12_isRipe_27 rfl rfl (by decide) (fun c_7 => ?_) (fun c_7 => ?_)
    · have h := pm_pos c_7 h
      refine pr_iconst dX12_isRipe_34 ?_
      have h := Option.some.inj h
      subst h
      exact pr_zret dX12_isRipe_35 rfl (Or.inl rfl)
    · have h := pm_ng c_7 h
      refine pr_iconst dX12_isRipe_30 ?_
      refine pr_goto (tgt := 35) dX12_isRipe_31 (by decide) ?_
      have h := Option.some.inj h
      subst h
      exact pr_zret dX12_isRipe_35 rfl (Or.inr rfl)
def fX12_load (x1 : Int) (x2 : Int) (x3 : Int) (σ : pm_M) : Option (Int × pm_M) :=
  (fX12_isIn x1 4).bind fun q1 => if (wr q1) = 0 then ((fX12_refuse (-1) σ).bind fun q4 => some (q4.1, q4.2)) else ((fX12_isIn x2 (σ 0 15)).bind fun q6 => if (wr q6) = 0 then ((fX12_refuse (-1) σ).bind fun q36 => some (q36.1, q36.2)) else (pm_g (0 ≤ (wr (80 + (4 * x1))) ∧ (wr (80 + (4 * x1))) < 755) (if 0 < (wr (σ 25 (Int.toNat (wr (80 + (4 * x1)))))) then ((fX12_refuse (-3) σ).bind fun q11 => some (q11.1, q11.2)) else ((fX12_isRipe x2 σ).bind fun q13 => if (wr q13) = 0 then ((fX12_refuse (-3) σ).bind fun q34 => some (q34.1, q34.2)) else (pm_g (0 ≤ (wr (0 + x2)) ∧ (wr (0 + x2)) < 755) ((fJ9_min_7cf53 100 (σ 25 (Int.toNat (wr (0 + x2))))).bind fun q17 => (fX12_wrong x3 1 q17).bind fun q19 => if (wr q19) = 0 then (pm_g (0 ≤ (wr (0 + x2)) ∧ (wr (0 + x2)) < 755) (pm_g (0 ≤ (wr (0 + x2)) ∧ (wr (0 + x2)) < 755) (pm_g (0 ≤ (wr (80 + (4 * x1))) ∧ (wr (80 + (4 * x1))) < 755) (pm_g (0 ≤ (wr x2) ∧ (wr x2) < 40) (pm_g (0 ≤ (wr ((80 + (4 * x1)) + 1)) ∧ (wr ((80 + (4 * x1)) + 1)) < 755) (pm_g (0 ≤ (wr x2) ∧ (wr x2) < 40) (pm_g (0 ≤ (wr ((pm_up (pm_up (pm_up σ 25 (Int.toNat (wr (0 + x2))) ((σ 25 (Int.toNat (wr (0 + x2)))) - x3)) 25 (Int.toNat (wr (80 + (4 * x1)))) x3) 25 (Int.toNat (wr ((80 + (4 * x1)) + 1))) ((pm_up (pm_up σ 25 (Int.toNat (wr (0 + x2))) ((σ 25 (Int.toNat (wr (0 + x2)))) - x3)) 25 (Int.toNat (wr (80 + (4 * x1)))) x3) 9 (Int.toNat (wr x2)))) 9 (Int.toNat (wr x2)))) ∧ (wr ((pm_up (pm_up (pm_up σ 25 (Int.toNat (wr (0 + x2))) ((σ 25 (Int.toNat (wr (0 + x2)))) - x3)) 25 (Int.toNat (wr (80 + (4 * x1)))) x3) 25 (Int.toNat (wr ((80 + (4 * x1)) + 1))) ((pm_up (pm_up σ 25 (Int.toNat (wr (0 + x2))) ((σ 25 (Int.toNat (wr (0 + x2)))) - x3)) 25 (Int.toNat (wr (80 + (4 * x1)))) x3) 9 (Int.toNat (wr x2)))) 9 (Int.toNat (wr x2)))) < 9) (pm_g (0 ≤ (wr ((80 + (4 * x1)) + 2)) ∧ (wr ((80 + (4 * x1)) + 2)) < 755) (pm_g (0 ≤ (wr x2) ∧ (wr x2) < 40) (pm_g (0 ≤ (wr ((pm_up (pm_up (pm_up (pm_up σ 25 (Int.toNat (wr (0 + x2))) ((σ 25 (Int.toNat (wr (0 + x2)))) - x3)) 25 (Int.toNat (wr (80 + (4 * x1)))) x3) 25 (Int.toNat (wr ((80 + (4 * x1)) + 1))) ((pm_up (pm_up σ 25 (Int.toNat (wr (0 + x2))) ((σ 25 (Int.toNat (wr (0 + x2)))) - x3)) 25 (Int.toNat (wr (80 + (4 * x1)))) x3) 9 (Int.toNat (wr x2)))) 25 (Int.toNat (wr ((80 + (4 * x1)) + 2))) ((pm_up (pm_up (pm_up σ 25 (Int.toNat (wr (0 + x2))) ((σ 25 (Int.toNat (wr (0 + x2)))) - x3)) 25 (Int.toNat (wr (80 + (4 * x1)))) x3) 25 (Int.toNat (wr ((80 + (4 * x1)) + 1))) ((pm_up (pm_up σ 25 (Int.toNat (wr (0 + x2))) ((σ 25 (Int.toNat (wr (0 + x2)))) - x3)) 25 (Int.toNat (wr (80 + (4 * x1)))) x3) 9 (Int.toNat (wr x2)))) 5 (Int.toNat (wr ((pm_up (pm_up (pm_up σ 25 (Int.toNat (wr (0 + x2))) ((σ 25 (Int.toNat (wr (0 + x2)))) - x3)) 25 (Int.toNat (wr (80 + (4 * x1)))) x3) 25 (Int.toNat (wr ((80 + (4 * x1)) + 1))) ((pm_up (pm_up σ 25 (Int.toNat (wr (0 + x2))) ((σ 25 (Int.toNat (wr (0 + x2)))) - x3)) 25 (Int.toNat (wr (80 + (4 * x1)))) x3) 9 (Int.toNat (wr x2)))) 9 (Int.toNat (wr x2))))))) 9 (Int.toNat (wr x2)))) ∧ (wr ((pm_up (pm_up (pm_up (pm_up σ 25 (Int.toNat (wr (0 + x2))) ((σ 25 (Int.toNat (wr (0 + x2)))) - x3)) 25 (Int.toNat (wr (80 + (4 * x1)))) x3) 25 (Int.toNat (wr ((80 + (4 * x1)) + 1))) ((pm_up (pm_up σ 25 (Int.toNat (wr (0 + x2))) ((σ 25 (Int.toNat (wr (0 + x2)))) - x3)) 25 (Int.toNat (wr (80 + (4 * x1)))) x3) 9 (Int.toNat (wr x2)))) 25 (Int.toNat (wr ((80 + (4 * x1)) + 2))) ((pm_up (pm_up (pm_up σ 25 (Int.toNat (wr (0 + x2))) ((σ 25 (Int.toNat (wr (0 + x2)))) - x3)) 25 (Int.toNat (wr (80 + (4 * x1)))) x3) 25 (Int.toNat (wr ((80 + (4 * x1)) + 1))) ((pm_up (pm_up σ 25 (Int.toNat (wr (0 + x2))) ((σ 25 (Int.toNat (wr (0 + x2)))) - x3)) 25 (Int.toNat (wr (80 + (4 * x1)))) x3) 9 (Int.toNat (wr x2)))) 5 (Int.toNat (wr ((pm_up (pm_up (pm_up σ 25 (Int.toNat (wr (0 + x2))) ((σ 25 (Int.toNat (wr (0 + x2)))) - x3)) 25 (Int.toNat (wr (80 + (4 * x1)))) x3) 25 (Int.toNat (wr ((80 + (4 * x1)) + 1))) ((pm_up (pm_up σ 25 (Int.toNat (wr (0 + x2))) ((σ 25 (Int.toNat (wr (0 + x2)))) - x3)) 25 (Int.toNat (wr (80 + (4 * x1)))) x3) 9 (Int.toNat (wr x2)))) 9 (Int.toNat (wr x2))))))) 9 (Int.toNat (wr x2)))) < 9) (some (((pm_up (pm_up (pm_up (pm_up σ 25 (Int.toNat (wr (0 + x2))) ((σ 25 (Int.toNat (wr (0 + x2)))) - x3)) 25 (Int.toNat (wr (80 + (4 * x1)))) x3) 25 (Int.toNat (wr ((80 + (4 * x1)) + 1))) ((pm_up (pm_up σ 25 (Int.toNat (wr (0 + x2))) ((σ 25 (Int.toNat (wr (0 + x2)))) - x3)) 25 (Int.toNat (wr (80 + (4 * x1)))) x3) 9 (Int.toNat (wr x2)))) 25 (Int.toNat (wr ((80 + (4 * x1)) + 2))) ((pm_up (pm_up (pm_up σ 25 (Int.toNat (wr (0 + x2))) ((σ 25 (Int.toNat (wr (0 + x2)))) - x3)) 25 (Int.toNat (wr (80 + (4 * x1)))) x3) 25 (Int.toNat (wr ((80 + (4 * x1)) + 1))) ((pm_up (pm_up σ 25 (Int.toNat (wr (0 + x2))) ((σ 25 (Int.toNat (wr (0 + x2)))) - x3)) 25 (Int.toNat (wr (80 + (4 * x1)))) x3) 9 (Int.toNat (wr x2)))) 5 (Int.toNat (wr ((pm_up (pm_up (pm_up σ 25 (Int.toNat (wr (0 + x2))) ((σ 25 (Int.toNat (wr (0 + x2)))) - x3)) 25 (Int.toNat (wr (80 + (4 * x1)))) x3) 25 (Int.toNat (wr ((80 + (4 * x1)) + 1))) ((pm_up (pm_up σ 25 (Int.toNat (wr (0 + x2))) ((σ 25 (Int.toNat (wr (0 + x2)))) - x3)) 25 (Int.toNat (wr (80 + (4 * x1)))) x3) 9 (Int.toNat (wr x2)))) 9 (Int.toNat (wr x2))))))) 5 (Int.toNat (wr ((pm_up (pm_up (pm_up (pm_up σ 25 (Int.toNat (wr (0 + x2))) ((σ 25 (Int.toNat (wr (0 + x2)))) - x3)) 25 (Int.toNat (wr (80 + (4 * x1)))) x3) 25 (Int.toNat (wr ((80 + (4 * x1)) + 1))) ((pm_up (pm_up σ 25 (Int.toNat (wr (0 + x2))) ((σ 25 (Int.toNat (wr (0 + x2)))) - x3)) 25 (Int.toNat (wr (80 + (4 * x1)))) x3) 9 (Int.toNat (wr x2)))) 25 (Int.toNat (wr ((80 + (4 * x1)) + 2))) ((pm_up (pm_up (pm_up σ 25 (Int.toNat (wr (0 + x2))) ((σ 25 (Int.toNat (wr (0 + x2)))) - x3)) 25 (Int.toNat (wr (80 + (4 * x1)))) x3) 25 (Int.toNat (wr ((80 + (4 * x1)) + 1))) ((pm_up (pm_up σ 25 (Int.toNat (wr (0 + x2))) ((σ 25 (Int.toNat (wr (0 + x2)))) - x3)) 25 (Int.toNat (wr (80 + (4 * x1)))) x3) 9 (Int.toNat (wr x2)))) 5 (Int.toNat (wr ((pm_up (pm_up (pm_up σ 25 (Int.toNat (wr (0 + x2))) ((σ 25 (Int.toNat (wr (0 + x2)))) - x3)) 25 (Int.toNat (wr (80 + (4 * x1)))) x3) 25 (Int.toNat (wr ((80 + (4 * x1)) + 1))) ((pm_up (pm_up σ 25 (Int.toNat (wr (0 + x2))) ((σ 25 (Int.toNat (wr (0 + x2)))) - x3)) 25 (Int.toNat (wr (80 + (4 * x1)))) x3) 9 (Int.toNat (wr x2)))) 9 (Int.toNat (wr x2))))))) 9 (Int.toNat (wr x2)))))), (pm_up (pm_up (pm_up (pm_up σ 25 (Int.toNat (wr (0 + x2))) ((σ 25 (Int.toNat (wr (0 + x2)))) - x3)) 25 (Int.toNat (wr (80 + (4 * x1)))) x3) 25 (Int.toNat (wr ((80 + (4 * x1)) + 1))) ((pm_up (pm_up σ 25 (Int.toNat (wr (0 + x2))) ((σ 25 (Int.toNat (wr (0 + x2)))) - x3)) 25 (Int.toNat (wr (80 + (4 * x1)))) x3) 9 (Int.toNat (wr x2)))) 25 (Int.toNat (wr ((80 + (4 * x1)) + 2))) ((pm_up (pm_up (pm_up σ 25 (Int.toNat (wr (0 + x2))) ((σ 25 (Int.toNat (wr (0 + x2)))) - x3)) 25 (Int.toNat (wr (80 + (4 * x1)))) x3) 25 (Int.toNat (wr ((80 + (4 * x1)) + 1))) ((pm_up (pm_up σ 25 (Int.toNat (wr (0 + x2))) ((σ 25 (Int.toNat (wr (0 + x2)))) - x3)) 25 (Int.toNat (wr (80 + (4 * x1)))) x3) 9 (Int.toNat (wr x2)))) 5 (Int.toNat (wr ((pm_up (pm_up (pm_up σ 25 (Int.toNat (wr (0 + x2))) ((σ 25 (Int.toNat (wr (0 + x2)))) - x3)) 25 (Int.toNat (wr (80 + (4 * x1)))) x3) 25 (Int.toNat (wr ((80 + (4 * x1)) + 1))) ((pm_up (pm_up σ 25 (Int.toNat (wr (0 + x2))) ((σ 25 (Int.toNat (wr (0 + x2)))) - x3)) 25 (Int.toNat (wr (80 + (4 * x1)))) x3) 9 (Int.toNat (wr x2)))) 9 (Int.toNat (wr x2))))))))))))))))))) else ((fX12_refuse q19 σ).bind fun q32 => some (q32.1, q32.2))))))))
set_option maxHeartbeats 4000000 in
set_option maxRecDepth 100000 in
theorem tmX12_load {x1 : Int} {x2 : Int} {x3 : Int} {σ : pm_M} {ρ : Int × pm_M} (h : fX12_load x1 x2 x3 σ = some ρ) : pm_C mX12_load 2 42 [pv_r 0, pv_i x1, pv_i x2, pv_i x3] LAYM σ (some (pv_i ρ.1)) LAYM ρ.2 := by
  refine pm_C.of rfl rfl (by decide) ?_
  show pm_J mX12_load 2 42 LAYM (some (pv_i ρ.1)) LAYM ρ.2 0 [some (pv_r 0), some (pv_i x1), some (pv_i x2), some (pv_i x3), none] [] LAYM σ
  unfold fX12_load at h
  refine pr_iload_n dX12_load_0 rfl ?_
  refine pr_iconst dX12_load_1 ?_
  obtain ⟨q1, e2, h⟩ := pm_bs h
  refine pr_callS (av := [pv_i x1, pv_i 4]) (S := []) dX12_load_2 mk_X12_95 rfl rfl (by decide) (by decide) (by decide) (Or.inl rfl) (tmX12_isIn e2) ?_
  refine pr_if_eq (tgt := 19) dX12_load_5 rfl (by decide) (fun c_3 => ?_) (fun c_3 => ?_)
  · have h := pm_pos c_3 h
    refine pr_aload_n dX12_load_19 rfl ?_
    refine pr_iconst dX12_load_20 ?_
    obtain ⟨q4, e5, h⟩ := pm_bs h
    refine pr_callV (As := [pv_i (-1)]) (S := []) (t := 0) dX12_load_21 mk_X12_103 lm_0 (ci := 12) (q := (RX12, TX12, 36)) rfl rfl rfl rfl (by decide) (by decide) (by decide) (Or.inl rfl) (tmX12_refuse e5) ?_
    have h := Option.some.inj h
    subst h
    exact pr_iret dX12_load_24 rfl
  · have h := pm_ng c_3 h
    refine pr_iload_n dX12_load_8 rfl ?_
    refine pr_aload_n dX12_load_9 rfl ?_
    refine pr_getI dX12_load_10 lk_X12_115 lm_0 rfl ?_
    obtain ⟨q6, e7, h⟩ := pm_bs h
    refine pr_callS (av := [pv_i x2, pv_i (σ 0 15)]) (S := []) dX12_load_13 mk_X12_95 rfl rfl (by decide) (by decide) (by decide) (Or.inl rfl) (tmX12_isIn e7) ?_
    refine pr_if_ne (tgt := 25) dX12_load_16 rfl (by decide) (fun c_8 => ?_) (fun c_8 => ?_)
    · have h := pm_ng c_8 h
      refine pr_aload_n dX12_load_25 rfl ?_
      refine pr_getR dX12_load_26 lk_X12_86 lm_0 rfl ?_
      refine pr_bipush dX12_load_29 (by decide) ?_
      refine pr_iconst dX12_load_31 ?_
      refine pr_iload_n dX12_load_32 rfl ?_
      refine pr_imul dX12_load_33 ?_
      refine pr_iadd dX12_load_34 ?_
      obtain ⟨g_9, h⟩ := pm_gs h
      refine pr_iald dX12_load_35 lm_25 rfl g_9 ?_
      refine pr_if_gt (tgt := 47) dX12_load_36 rfl (by decide) (fun c_10 => ?_) (fun c_10 => ?_)
      · have h := pm_pos c_10 h
        refine pr_aload_n dX12_load_47 rfl ?_
        refine pr_bipush dX12_load_48 (by decide) ?_
        obtain ⟨q11, e12, h⟩ := pm_bs h
        refine pr_callV (As := [pv_i (-3)]) (S := []) (t := 0) dX12_load_50 mk_X12_103 lm_0 (ci := 12) (q := (RX12, TX12, 36)) rfl rfl rfl rfl (by decide) (by decide) (by decide) (Or.inl rfl) (tmX12_refuse e12) ?_
        have h := Option.some.inj h
        subst h
        exact pr_iret dX12_load_53 rfl
      · have h := pm_ng c_10 h
        refine pr_aload_n dX12_load_39 rfl ?_
        refine pr_iload_n dX12_load_40 rfl ?_
        obtain ⟨q13, e14, h⟩ := pm_bs h
        refine pr_callV (As := [pv_i x2]) (S := []) (t := 0) dX12_load_41 mk_X12_121 lm_0 (ci := 12) (q := (RX12, TX12, 36)) rfl rfl rfl rfl (by decide) (by decide) (by decide) (Or.inl rfl) (tmX12_isRipe e14) ?_
        refine pr_if_ne (tgt := 54) dX12_load_44 rfl (by decide) (fun c_15 => ?_) (fun c_15 => ?_)
        · have h := pm_ng c_15 h
          refine pr_iload_n dX12_load_54 rfl ?_
          refine pr_iconst dX12_load_55 ?_
          refine pr_bipush dX12_load_56 (by decide) ?_
          refine pr_aload_n dX12_load_58 rfl ?_
          refine pr_getR dX12_load_59 lk_X12_86 lm_0 rfl ?_
          refine pr_iconst dX12_load_62 ?_
          refine pr_iload_n dX12_load_63 rfl ?_
          refine pr_iadd dX12_load_64 ?_
          obtain ⟨g_16, h⟩ := pm_gs h
          refine pr_iald dX12_load_65 lm_25 rfl g_16 ?_
          obtain ⟨q17, e18, h⟩ := pm_bs h
          refine pr_callS (av := [pv_i 100, pv_i (σ 25 (Int.toNat (wr (0 + x2))))]) (S := [pv_i 1, pv_i x3]) dX12_load_66 mk_X12_124 rfl rfl (by decide) (by decide) (by decide) (Or.inl rfl) (tmJ9_min_7cf53 e18) ?_
          obtain ⟨q19, e20, h⟩ := pm_bs h
          refine pr_callS (av := [pv_i x3, pv_i 1, pv_i q17]) (S := []) dX12_load_69 mk_X12_99 rfl rfl (by decide) (by decide) (by decide) (Or.inl rfl) (tmX12_wrong e20) ?_
          refine pr_istore dX12_load_72 (by decide) rfl ?_
          refine pr_iload dX12_load_74 rfl ?_
          refine pr_if_eq (tgt := 86) dX12_load_76 rfl (by decide) (fun c_21 => ?_) (fun c_21 => ?_)
          · have h := pm_pos c_21 h
            refine pr_aload_n dX12_load_86 rfl ?_
            refine pr_getR dX12_load_87 lk_X12_86 lm_0 rfl ?_
            refine pr_iconst dX12_load_90 ?_
            refine pr_iload_n dX12_load_91 rfl ?_
            refine pr_iadd dX12_load_92 ?_
            refine pr_dup2 dX12_load_93 rfl rfl ?_
            obtain ⟨g_22, h⟩ := pm_gs h
            refine pr_iald dX12_load_94 lm_25 rfl g_22 ?_
            refine pr_iload_n dX12_load_95 rfl ?_
            refine pr_isub dX12_load_96 ?_
            obtain ⟨g_23, h⟩ := pm_gs h
            refine pr_iast dX12_load_97 lm_25 rfl g_23 ?_
            refine pr_aload_n dX12_load_98 rfl ?_
            refine pr_getR dX12_load_99 lk_X12_86 lm_0 rfl ?_
            refine pr_bipush dX12_load_102 (by decide) ?_
            refine pr_iconst dX12_load_104 ?_
            refine pr_iload_n dX12_load_105 rfl ?_
            refine pr_imul dX12_load_106 ?_
            refine pr_iadd dX12_load_107 ?_
            refine pr_iload_n dX12_load_108 rfl ?_
            obtain ⟨g_24, h⟩ := pm_gs h
            refine pr_iast dX12_load_109 lm_25 rfl g_24 ?_
            refine pr_aload_n dX12_load_110 rfl ?_
            refine pr_getR dX12_load_111 lk_X12_86 lm_0 rfl ?_
            refine pr_bipush dX12_load_114 (by decide) ?_
            refine pr_iconst dX12_load_116 ?_
            refine pr_iload_n dX12_load_117 rfl ?_
            refine pr_imul dX12_load_118 ?_
            refine pr_iadd dX12_load_119 ?_
            refine pr_iconst dX12_load_120 ?_
            refine pr_iadd dX12_load_121 ?_
            refine pr_aload_n dX12_load_122 rfl ?_
            refine pr_getR dX12_load_123 lk_X12_34 lm_0 rfl ?_
            refine pr_iload_n dX12_load_126 rfl ?_
            obtain ⟨g_25, h⟩ := pm_gs h
            refine pr_iald dX12_load_127 lm_9 rfl g_25 ?_
            obtain ⟨g_26, h⟩ := pm_gs h
            refine pr_iast dX12_load_128 lm_25 rfl g_26 ?_
            refine pr_aload_n dX12_load_129 rfl ?_
            refine pr_getR dX12_load_130 lk_X12_86 lm_0 rfl ?_
            refine pr_bipush dX12_load_133 (by decide) ?_
            refine pr_iconst dX12_load_135 ?_
            refine pr_iload_n dX12_load_136 rfl ?_
            refine pr_imul dX12_load_137 ?_
            refine pr_iadd dX12_load_138 ?_
            refine pr_iconst dX12_load_139 ?_
            refine pr_iadd dX12_load_140 ?_
            refine pr_aload_n dX12_load_141 rfl ?_
            refine pr_getR dX12_load_142 lk_X12_22 lm_0 rfl ?_
            refine pr_aload_n dX12_load_145 rfl ?_
            refine pr_getR dX12_load_146 lk_X12_34 lm_0 rfl ?_
            refine pr_iload_n dX12_load_149 rfl ?_
            obtain ⟨g_27, h⟩ := pm_gs h
            refine pr_iald dX12_load_150 lm_9 rfl g_27 ?_
            obtain ⟨g_28, h⟩ := pm_gs h
            refine pr_iald dX12_load_151 lm_5 rfl g_28 ?_
            obtain ⟨g_29, h⟩ := pm_gs h
            refine pr_iast dX12_load_152 lm_25 rfl g_29 ?_
            refine pr_aload_n dX12_load_153 rfl ?_
            refine pr_getR dX12_load_154 lk_X12_22 lm_0 rfl ?_
            refine pr_aload_n dX12_load_157 rfl ?_
            refine pr_getR dX12_load_158 lk_X12_34 lm_0 rfl ?_
            refine pr_iload_n dX12_load_161 rfl ?_
            obtain ⟨g_30, h⟩ := pm_gs h
            refine pr_iald dX12_load_162 lm_9 rfl g_30 ?_
            obtain ⟨g_31, h⟩ := pm_gs h
            refine pr_iald dX12_load_163 lm_5 rfl g_31 ?_
            have h := Option.some.inj h
            subst h
            exact pr_iret dX12_load_164 rfl
          · have h := pm_ng c_21 h
            refine pr_aload_n dX12_load_79 rfl ?_
            refine pr_iload dX12_load_80 rfl ?_
            obtain ⟨q32, e33, h⟩ := pm_bs h
            refine pr_callV (As := [pv_i q19]) (S := []) (t := 0) dX12_load_82 mk_X12_103 lm_0 (ci := 12) (q := (RX12, TX12, 36)) rfl rfl rfl rfl (by decide) (by decide) (by decide) (Or.inl rfl) (tmX12_refuse e33) ?_
            have h := Option.some.inj h
            subst h
            exact pr_iret dX12_load_85 rfl
        · have h := pm_pos c_15 h
          refine pr_aload_n dX12_load_47 rfl ?_
          refine pr_bipush dX12_load_48 (by decide) ?_
          obtain ⟨q34, e35, h⟩ := pm_bs h
          refine pr_callV (As := [pv_i (-3)]) (S := []) (t := 0) dX12_load_50 mk_X12_103 lm_0 (ci := 12) (q := (RX12, TX12, 36)) rfl rfl rfl rfl (by decide) (by decide) (by decide) (Or.inl rfl) (tmX12_refuse e35) ?_
          have h := Option.some.inj h
          subst h
          exact pr_iret dX12_load_53 rfl
    · have h := pm_pos c_8 h
      refine pr_aload_n dX12_load_19 rfl ?_
      refine pr_iconst dX12_load_20 ?_
      obtain ⟨q36, e37, h⟩ := pm_bs h
      refine pr_callV (As := [pv_i (-1)]) (S := []) (t := 0) dX12_load_21 mk_X12_103 lm_0 (ci := 12) (q := (RX12, TX12, 36)) rfl rfl rfl rfl (by decide) (by decide) (by decide) (Or.inl rfl) (tmX12_refuse e37) ?_
      have h := Option.some.inj h
      subst h
      exact pr_iret dX12_load_24 rfl
def bdX12_pair_44 (z2 : Int) (σ : pm_M) : Option ((Int × pm_M) ⊕ (Int × pm_M)) :=
  if 12 ≤ (wr z2) then (some (.inl (z2, σ))) else (pm_g (0 ≤ (wr ((12 * (σ 0 16)) + z2)) ∧ (wr ((12 * (σ 0 16)) + z2)) < 48) (some (.inr ((z2 + 1), (pm_up σ 12 (Int.toNat (wr ((12 * (σ 0 16)) + z2))) 50)))))
set_option maxHeartbeats 4000000 in
set_option maxRecDepth 100000 in
theorem tbX12_pair_44 {lay0 lay' : List pm_S} {r : Option pm_V} {σ' : pm_M} : ∀ (a : Int × pm_M) (e : (Int × pm_M) ⊕ (Int × pm_M)), (fun a => bdX12_pair_44 a.1 a.2) a = some e → (∀ a, e = .inr a → (fun a => pm_J mX12_pair 1 21 lay0 r lay' σ' 44 [some (pv_r 0), none, some (pv_i a.1)] [] LAYM a.2) a) → (∀ a, e = .inl a → (fun a => pm_J mX12_pair 1 21 lay0 r lay' σ' 72 [some (pv_r 0), none, none] [] LAYM a.2) a) → (fun a => pm_J mX12_pair 1 21 lay0 r lay' σ' 44 [some (pv_r 0), none, some (pv_i a.1)] [] LAYM a.2) a := by
  intro a e h hc hx
  obtain ⟨z2, σ⟩ := a
  have h : bdX12_pair_44 z2 σ = some e := h
  unfold bdX12_pair_44 at h
  show pm_J mX12_pair 1 21 lay0 r lay' σ' 44 [some (pv_r 0), none, some (pv_i z2)] [] LAYM σ
  refine pr_iload_n dX12_pair_44 rfl ?_
  refine pr_bipush dX12_pair_45 (by decide) ?_
  refine pr_icmp_ge (tgt := 72) dX12_pair_47 rfl (wr_eq (by decide) (by decide)) (by decide) (fun c_6 => ?_) (fun c_6 => ?_)
  · have h := pm_pos c_6 h
    refine pr_weak (L2 := [some (pv_r 0), none, none]) ⟨Or.inr rfl, Or.inl rfl, Or.inl rfl, trivial⟩ ?_
    exact hx _ (Option.some.inj h).symm
  · have h := pm_ng c_6 h
    refine pr_aload_n dX12_pair_50 rfl ?_
    refine pr_getR dX12_pair_51 lk_X12_43 lm_0 rfl ?_
    refine pr_bipush dX12_pair_54 (by decide) ?_
    refine pr_aload_n dX12_pair_56 rfl ?_
    refine pr_getI dX12_pair_57 lk_X12_129 lm_0 rfl ?_
    refine pr_imul dX12_pair_60 ?_
    refine pr_iload_n dX12_pair_61 rfl ?_
    refine pr_iadd dX12_pair_62 ?_
    refine pr_bipush dX12_pair_63 (by decide) ?_
    obtain ⟨g_7, h⟩ := pm_gs h
    refine pr_iast dX12_pair_65 lm_12 rfl g_7 ?_
    refine pr_iinc dX12_pair_66 rfl (by decide) rfl ?_
    refine pr_goto (tgt := 44) dX12_pair_69 (by decide) ?_
    refine pr_weak (L2 := [some (pv_r 0), none, some (pv_i (z2 + 1))]) ⟨Or.inr rfl, Or.inl rfl, Or.inr rfl, trivial⟩ ?_
    exact hc _ (Option.some.inj h).symm
def fX12_pair (x1 : Int) (σ : pm_M) : Option (Int × pm_M) :=
  (fX12_isIn (x1 - 1) 8).bind fun q1 => if (wr q1) = 0 then ((fX12_refuse (-1) σ).bind fun q12 => some (q12.1, q12.2)) else (if (wr (σ 0 16)) = 4 then ((fX12_refuse (-6) σ).bind fun q10 => some (q10.1, q10.2)) else (pm_g (0 ≤ (wr (σ 0 16)) ∧ (wr (σ 0 16)) < 4) ((pm_it (fun a => bdX12_pair_44 a.1 a.2) pm_fuel (0, (pm_up σ 11 (Int.toNat (wr (σ 0 16))) x1))).bind fun v8 => some ((((pm_up v8.2 0 16 ((v8.2 0 16) + 1)) 0 16) - 1), (pm_up v8.2 0 16 ((v8.2 0 16) + 1))))))
set_option maxHeartbeats 4000000 in
set_option maxRecDepth 100000 in
theorem tmX12_pair {x1 : Int} {σ : pm_M} {ρ : Int × pm_M} (h : fX12_pair x1 σ = some ρ) : pm_C mX12_pair 1 21 [pv_r 0, pv_i x1] LAYM σ (some (pv_i ρ.1)) LAYM ρ.2 := by
  refine pm_C.of rfl rfl (by decide) ?_
  show pm_J mX12_pair 1 21 LAYM (some (pv_i ρ.1)) LAYM ρ.2 0 [some (pv_r 0), some (pv_i x1), none] [] LAYM σ
  unfold fX12_pair at h
  refine pr_iload_n dX12_pair_0 rfl ?_
  refine pr_iconst dX12_pair_1 ?_
  refine pr_isub dX12_pair_2 ?_
  refine pr_bipush dX12_pair_3 (by decide) ?_
  obtain ⟨q1, e2, h⟩ := pm_bs h
  refine pr_callS (av := [pv_i (x1 - 1), pv_i 8]) (S := []) dX12_pair_5 mk_X12_95 rfl rfl (by decide) (by decide) (by decide) (Or.inl rfl) (tmX12_isIn e2) ?_
  refine pr_if_ne (tgt := 17) dX12_pair_8 rfl (by decide) (fun c_3 => ?_) (fun c_3 => ?_)
  · have h := pm_ng c_3 h
    refine pr_aload_n dX12_pair_17 rfl ?_
    refine pr_getI dX12_pair_18 lk_X12_129 lm_0 rfl ?_
    refine pr_iconst dX12_pair_21 ?_
    refine pr_icmp_ne (tgt := 32) dX12_pair_22 rfl (wr_eq (by decide) (by decide)) (by decide) (fun c_4 => ?_) (fun c_4 => ?_)
    · have h := pm_ng c_4 h
      refine pr_aload_n dX12_pair_32 rfl ?_
      refine pr_getR dX12_pair_33 lk_X12_40 lm_0 rfl ?_
      refine pr_aload_n dX12_pair_36 rfl ?_
      refine pr_getI dX12_pair_37 lk_X12_129 lm_0 rfl ?_
      refine pr_iload_n dX12_pair_40 rfl ?_
      obtain ⟨g_5, h⟩ := pm_gs h
      refine pr_iast dX12_pair_41 lm_11 rfl g_5 ?_
      refine pr_iconst dX12_pair_42 ?_
      refine pr_istore_n dX12_pair_43 (by decide) rfl ?_
      obtain ⟨v8, e9, h⟩ := pm_bs h
      refine pr_weak (L2 := [some (pv_r 0), none, some (pv_i 0)]) ⟨Or.inr rfl, Or.inl rfl, Or.inr rfl, trivial⟩ ?_
      refine pm_it_J (P := fun a => pm_J mX12_pair 1 21 LAYM (some (pv_i ρ.1)) LAYM ρ.2 44 [some (pv_r 0), none, some (pv_i a.1)] [] LAYM a.2) (Rx := fun a => pm_J mX12_pair 1 21 LAYM (some (pv_i ρ.1)) LAYM ρ.2 72 [some (pv_r 0), none, none] [] LAYM a.2) (tbX12_pair_44) _ _ _ e9 ?_
      show pm_J mX12_pair 1 21 LAYM (some (pv_i ρ.1)) LAYM ρ.2 72 [some (pv_r 0), none, none] [] LAYM v8.2
      refine pr_aload_n dX12_pair_72 rfl ?_
      refine pr_dup dX12_pair_73 rfl ?_
      refine pr_getI dX12_pair_74 lk_X12_129 lm_0 rfl ?_
      refine pr_iconst dX12_pair_77 ?_
      refine pr_iadd dX12_pair_78 ?_
      refine pr_putI dX12_pair_79 lp_X12_129 lm_0 rfl ?_
      refine pr_aload_n dX12_pair_82 rfl ?_
      refine pr_getI dX12_pair_83 lk_X12_129 lm_0 rfl ?_
      refine pr_iconst dX12_pair_86 ?_
      refine pr_isub dX12_pair_87 ?_
      have h := Option.some.inj h
      subst h
      exact pr_iret dX12_pair_88 rfl
    · have h := pm_pos c_4 h
      refine pr_aload_n dX12_pair_25 rfl ?_
      refine pr_bipush dX12_pair_26 (by decide) ?_
      obtain ⟨q10, e11, h⟩ := pm_bs h
      refine pr_callV (As := [pv_i (-6)]) (S := []) (t := 0) dX12_pair_28 mk_X12_103 lm_0 (ci := 12) (q := (RX12, TX12, 36)) rfl rfl rfl rfl (by decide) (by decide) (by decide) (Or.inl rfl) (tmX12_refuse e11) ?_
      have h := Option.some.inj h
      subst h
      exact pr_iret dX12_pair_31 rfl
  · have h := pm_pos c_3 h
    refine pr_aload_n dX12_pair_11 rfl ?_
    refine pr_iconst dX12_pair_12 ?_
    obtain ⟨q12, e13, h⟩ := pm_bs h
    refine pr_callV (As := [pv_i (-1)]) (S := []) (t := 0) dX12_pair_13 mk_X12_103 lm_0 (ci := 12) (q := (RX12, TX12, 36)) rfl rfl rfl rfl (by decide) (by decide) (by decide) (Or.inl rfl) (tmX12_refuse e13) ?_
    have h := Option.some.inj h
    subst h
    exact pr_iret dX12_pair_16 rfl
def bdX12_isBegun_4 (y1 : Int) (σ : pm_M) (z2 : Int) (z3 : Int) : Option ((Int × Int) ⊕ (Int × Int)) :=
  if 3 ≤ (wr z3) then (some (.inl (z2, z3))) else (if (wr z2) = 0 then (pm_g (0 ≤ (wr z3) ∧ (wr z3) < 3) (if (wr (σ 14 (Int.toNat (wr z3)))) = (wr y1) then (pm_g (0 ≤ (wr (105 + (2 * z3))) ∧ (wr (105 + (2 * z3))) < 755) (if (wr (σ 25 (Int.toNat (wr (105 + (2 * z3)))))) ≤ 0 then (some (.inr (0, (z3 + 1)))) else (some (.inr (1, (z3 + 1)))))) else (some (.inr (0, (z3 + 1)))))) else (some (.inr (1, (z3 + 1)))))
set_option maxHeartbeats 4000000 in
set_option maxRecDepth 100000 in
theorem tbX12_isBegun_4 {lay0 lay' : List pm_S} {r : Option pm_V} {σ' : pm_M} (y1 : Int) (σ : pm_M) : ∀ (a : Int × Int) (e : (Int × Int) ⊕ (Int × Int)), (fun a => bdX12_isBegun_4 y1 σ a.1 a.2) a = some e → (∀ a, e = .inr a → (fun a => pm_J mX12_isBegun 0 0 lay0 r lay' σ' 4 [some (pv_r 0), some (pv_i y1), some (pv_i a.1), some (pv_i a.2)] [] LAYM σ) a) → (∀ a, e = .inl a → (fun a => pm_J mX12_isBegun 0 0 lay0 r lay' σ' 49 [none, none, some (pv_i a.1), none] [] LAYM σ) a) → (fun a => pm_J mX12_isBegun 0 0 lay0 r lay' σ' 4 [some (pv_r 0), some (pv_i y1), some (pv_i a.1), some (pv_i a.2)] [] LAYM σ) a := by
  intro a e h hc hx
  obtain ⟨z2, z3⟩ := a
  have h : bdX12_isBegun_4 y1 σ z2 z3 = some e := h
  unfold bdX12_isBegun_4 at h
  show pm_J mX12_isBegun 0 0 lay0 r lay' σ' 4 [some (pv_r 0), some (pv_i y1), some (pv_i z2), some (pv_i z3)] [] LAYM σ
  refine pr_iload_n dX12_isBegun_4 rfl ?_
  refine pr_iconst dX12_isBegun_5 ?_
  refine pr_icmp_ge (tgt := 49) dX12_isBegun_6 rfl (wr_eq (by decide) (by decide)) (by decide) (fun c_1 => ?_) (fun c_1 => ?_)
  · have h := pm_pos c_1 h
    refine pr_weak (L2 := [none, none, some (pv_i z2), none]) ⟨Or.inl rfl, Or.inl rfl, Or.inr rfl, Or.inl rfl, trivial⟩ ?_
    exact hx _ (Option.some.inj h).symm
  · have h := pm_ng c_1 h
    refine pr_iload_n dX12_isBegun_9 rfl ?_
    refine pr_if_ne (tgt := 37) dX12_isBegun_10 rfl (by decide) (fun c_2 => ?_) (fun c_2 => ?_)
    · have h := pm_ng c_2 h
      refine pr_iconst dX12_isBegun_37 ?_
      refine pr_goto (tgt := 42) dX12_isBegun_38 (by decide) ?_
      refine pr_istore_n dX12_isBegun_42 (by decide) rfl ?_
      refine pr_iinc dX12_isBegun_43 rfl (by decide) rfl ?_
      refine pr_goto (tgt := 4) dX12_isBegun_46 (by decide) ?_
      refine pr_weak (L2 := [some (pv_r 0), some (pv_i y1), some (pv_i 1), some (pv_i (z3 + 1))]) ⟨Or.inr rfl, Or.inr rfl, Or.inr rfl, Or.inr rfl, trivial⟩ ?_
      exact hc _ (Option.some.inj h).symm
    · have h := pm_pos c_2 h
      refine pr_aload_n dX12_isBegun_13 rfl ?_
      refine pr_getR dX12_isBegun_14 lk_X12_49 lm_0 rfl ?_
      refine pr_iload_n dX12_isBegun_17 rfl ?_
      obtain ⟨g_3, h⟩ := pm_gs h
      refine pr_iald dX12_isBegun_18 lm_14 rfl g_3 ?_
      refine pr_iload_n dX12_isBegun_19 rfl ?_
      refine pr_icmp_ne (tgt := 41) dX12_isBegun_20 rfl rfl (by decide) (fun c_4 => ?_) (fun c_4 => ?_)
      · have h := pm_ng c_4 h
        refine pr_iconst dX12_isBegun_41 ?_
        refine pr_istore_n dX12_isBegun_42 (by decide) rfl ?_
        refine pr_iinc dX12_isBegun_43 rfl (by decide) rfl ?_
        refine pr_goto (tgt := 4) dX12_isBegun_46 (by decide) ?_
        refine pr_weak (L2 := [some (pv_r 0), some (pv_i y1), some (pv_i 0), some (pv_i (z3 + 1))]) ⟨Or.inr rfl, Or.inr rfl, Or.inr rfl, Or.inr rfl, trivial⟩ ?_
        exact hc _ (Option.some.inj h).symm
      · have h := pm_pos c_4 h
        refine pr_aload_n dX12_isBegun_23 rfl ?_
        refine pr_getR dX12_isBegun_24 lk_X12_86 lm_0 rfl ?_
        refine pr_bipush dX12_isBegun_27 (by decide) ?_
        refine pr_iconst dX12_isBegun_29 ?_
        refine pr_iload_n dX12_isBegun_30 rfl ?_
        refine pr_imul dX12_isBegun_31 ?_
        refine pr_iadd dX12_isBegun_32 ?_
        obtain ⟨g_5, h⟩ := pm_gs h
        refine pr_iald dX12_isBegun_33 lm_25 rfl g_5 ?_
        refine pr_if_le (tgt := 41) dX12_isBegun_34 rfl (by decide) (fun c_6 => ?_) (fun c_6 => ?_)
        · have h := pm_pos c_6 h
          refine pr_iconst dX12_isBegun_41 ?_
          refine pr_istore_n dX12_isBegun_42 (by decide) rfl ?_
          refine pr_iinc dX12_isBegun_43 rfl (by decide) rfl ?_
          refine pr_goto (tgt := 4) dX12_isBegun_46 (by decide) ?_
          refine pr_weak (L2 := [some (pv_r 0), some (pv_i y1), some (pv_i 0), some (pv_i (z3 + 1))]) ⟨Or.inr rfl, Or.inr rfl, Or.inr rfl, Or.inr rfl, trivial⟩ ?_
          exact hc _ (Option.some.inj h).symm
        · have h := pm_ng c_6 h
          refine pr_iconst dX12_isBegun_37 ?_
          refine pr_goto (tgt := 42) dX12_isBegun_38 (by decide) ?_
          refine pr_istore_n dX12_isBegun_42 (by decide) rfl ?_
          refine pr_iinc dX12_isBegun_43 rfl (by decide) rfl ?_
          refine pr_goto (tgt := 4) dX12_isBegun_46 (by decide) ?_
          refine pr_weak (L2 := [some (pv_r 0), some (pv_i y1), some (pv_i 1), some (pv_i (z3 + 1))]) ⟨Or.inr rfl, Or.inr rfl, Or.inr rfl, Or.inr rfl, trivial⟩ ?_
          exact hc _ (Option.some.inj h).symm
def fX12_isBegun (x1 : Int) (σ : pm_M) : Option (Int) :=
  (pm_it (fun a => bdX12_isBegun_4 x1 σ a.1 a.2) pm_fuel (0, 0)).bind fun v7 => pm_g (v7.1 = 0 ∨ v7.1 = 1) (some v7.1)
set_option maxHeartbeats 4000000 in
set_option maxRecDepth 100000 in
theorem tmX12_isBegun {x1 : Int} {σ : pm_M} {ρ : Int} (h : fX12_isBegun x1 σ = some ρ) : pm_C mX12_isBegun 0 0 [pv_r 0, pv_i x1] LAYM σ (some (pv_i ρ)) LAYM σ := by
  refine pm_C.of rfl rfl (by decide) ?_
  show pm_J mX12_isBegun 0 0 LAYM (some (pv_i ρ)) LAYM σ 0 [some (pv_r 0), some (pv_i x1), none, none] [] LAYM σ
  unfold fX12_isBegun at h
  refine pr_iconst dX12_isBegun_0 ?_
  refine pr_istore_n dX12_isBegun_1 (by decide) rfl ?_
  refine pr_iconst dX12_isBegun_2 ?_
  refine pr_istore_n dX12_isBegun_3 (by decide) rfl ?_
  obtain ⟨v7, e8, h⟩ := pm_bs h
  refine pr_weak (L2 := [some (pv_r 0), some (pv_i x1), some (pv_i 0), some (pv_i 0)]) ⟨Or.inr rfl, Or.inr rfl, Or.inr rfl, Or.inr rfl, trivial⟩ ?_
  refine pm_it_J (P := fun a => pm_J mX12_isBegun 0 0 LAYM (some (pv_i ρ)) LAYM σ 4 [some (pv_r 0), some (pv_i x1), some (pv_i a.1), some (pv_i a.2)] [] LAYM σ) (Rx := fun a => pm_J mX12_isBegun 0 0 LAYM (some (pv_i ρ)) LAYM σ 49 [none, none, some (pv_i a.1), none] [] LAYM σ) (tbX12_isBegun_4 x1 σ) _ _ _ e8 ?_
  show pm_J mX12_isBegun 0 0 LAYM (some (pv_i ρ)) LAYM σ 49 [none, none, some (pv_i v7.1), none] [] LAYM σ
  refine pr_iload_n dX12_isBegun_49 rfl ?_
  obtain ⟨g_9, h⟩ := pm_gs h
  have h := Option.some.inj h
  subst h
  exact pr_zret dX12_isBegun_50 rfl g_9
def fX12_wire (x1 : Int) (x2 : Int) (x3 : Int) (σ : pm_M) : Option (Int × pm_M) :=
  (fX12_isIn x1 (2 * (σ 0 16))).bind fun q1 => if (wr q1) = 0 then ((fX12_refuse (-1) σ).bind fun q4 => some (q4.1, q4.2)) else ((fX12_isIn x2 6).bind fun q6 => if (wr q6) = 0 then ((fX12_refuse (-1) σ).bind fun q21 => some (q21.1, q21.2)) else ((fX12_isBegun (Int.tdiv (wr x1) 2) σ).bind fun q9 => if (wr q9) = 0 then ((fX12_wrong x3 0 99).bind fun q12 => if (wr q12) = 0 then (pm_g (0 ≤ (wr ((6 * x1) + x2)) ∧ (wr ((6 * x1) + x2)) < 48) (pm_g (0 ≤ (wr ((6 * x1) + x2)) ∧ (wr ((6 * x1) + x2)) < 48) (some ((σ 12 (Int.toNat (wr ((6 * x1) + x2)))), (pm_up σ 12 (Int.toNat (wr ((6 * x1) + x2))) x3))))) else ((fX12_refuse q12 σ).bind fun q17 => some (q17.1, q17.2))) else ((fX12_refuse (-3) σ).bind fun q19 => some (q19.1, q19.2))))
set_option maxHeartbeats 4000000 in
set_option maxRecDepth 100000 in
theorem tmX12_wire {x1 : Int} {x2 : Int} {x3 : Int} {σ : pm_M} {ρ : Int × pm_M} (h : fX12_wire x1 x2 x3 σ = some ρ) : pm_C mX12_wire 1 23 [pv_r 0, pv_i x1, pv_i x2, pv_i x3] LAYM σ (some (pv_i ρ.1)) LAYM ρ.2 := by
  refine pm_C.of rfl rfl (by decide) ?_
  show pm_J mX12_wire 1 23 LAYM (some (pv_i ρ.1)) LAYM ρ.2 0 [some (pv_r 0), some (pv_i x1), some (pv_i x2), some (pv_i x3), none, none] [] LAYM σ
  unfold fX12_wire at h
  refine pr_iload_n dX12_wire_0 rfl ?_
  refine pr_iconst dX12_wire_1 ?_
  refine pr_aload_n dX12_wire_2 rfl ?_
  refine pr_getI dX12_wire_3 lk_X12_129 lm_0 rfl ?_
  refine pr_imul dX12_wire_6 ?_
  obtain ⟨q1, e2, h⟩ := pm_bs h
  refine pr_callS (av := [pv_i x1, pv_i (2 * (σ 0 16))]) (S := []) dX12_wire_7 mk_X12_95 rfl rfl (by decide) (by decide) (by decide) (Or.inl rfl) (tmX12_isIn e2) ?_
  refine pr_if_eq (tgt := 22) dX12_wire_10 rfl (by decide) (fun c_3 => ?_) (fun c_3 => ?_)
  · have h := pm_pos c_3 h
    refine pr_aload_n dX12_wire_22 rfl ?_
    refine pr_iconst dX12_wire_23 ?_
    obtain ⟨q4, e5, h⟩ := pm_bs h
    refine pr_callV (As := [pv_i (-1)]) (S := []) (t := 0) dX12_wire_24 mk_X12_103 lm_0 (ci := 12) (q := (RX12, TX12, 36)) rfl rfl rfl rfl (by decide) (by decide) (by decide) (Or.inl rfl) (tmX12_refuse e5) ?_
    have h := Option.some.inj h
    subst h
    exact pr_iret dX12_wire_27 rfl
  · have h := pm_ng c_3 h
    refine pr_iload_n dX12_wire_13 rfl ?_
    refine pr_bipush dX12_wire_14 (by decide) ?_
    obtain ⟨q6, e7, h⟩ := pm_bs h
    refine pr_callS (av := [pv_i x2, pv_i 6]) (S := []) dX12_wire_16 mk_X12_95 rfl rfl (by decide) (by decide) (by decide) (Or.inl rfl) (tmX12_isIn e7) ?_
    refine pr_if_ne (tgt := 28) dX12_wire_19 rfl (by decide) (fun c_8 => ?_) (fun c_8 => ?_)
    · have h := pm_ng c_8 h
      refine pr_aload_n dX12_wire_28 rfl ?_
      refine pr_iload_n dX12_wire_29 rfl ?_
      refine pr_iconst dX12_wire_30 ?_
      refine pr_idiv dX12_wire_31 rfl (wr_eq (by decide) (by decide)) (by decide) ?_
      obtain ⟨q9, e10, h⟩ := pm_bs h
      refine pr_callV (As := [pv_i (Int.tdiv (wr x1) 2)]) (S := []) (t := 0) dX12_wire_32 mk_X12_132 lm_0 (ci := 12) (q := (RX12, TX12, 36)) rfl rfl rfl rfl (by decide) (by decide) (by decide) (Or.inl rfl) (tmX12_isBegun e10) ?_
      refine pr_if_eq (tgt := 45) dX12_wire_35 rfl (by decide) (fun c_11 => ?_) (fun c_11 => ?_)
      · have h := pm_pos c_11 h
        refine pr_iload_n dX12_wire_45 rfl ?_
        refine pr_iconst dX12_wire_46 ?_
        refine pr_bipush dX12_wire_47 (by decide) ?_
        obtain ⟨q12, e13, h⟩ := pm_bs h
        refine pr_callS (av := [pv_i x3, pv_i 0, pv_i 99]) (S := []) dX12_wire_49 mk_X12_99 rfl rfl (by decide) (by decide) (by decide) (Or.inl rfl) (tmX12_wrong e13) ?_
        refine pr_istore dX12_wire_52 (by decide) rfl ?_
        refine pr_iload dX12_wire_54 rfl ?_
        refine pr_if_eq (tgt := 66) dX12_wire_56 rfl (by decide) (fun c_14 => ?_) (fun c_14 => ?_)
        · have h := pm_pos c_14 h
          refine pr_aload_n dX12_wire_66 rfl ?_
          refine pr_getR dX12_wire_67 lk_X12_43 lm_0 rfl ?_
          refine pr_bipush dX12_wire_70 (by decide) ?_
          refine pr_iload_n dX12_wire_72 rfl ?_
          refine pr_imul dX12_wire_73 ?_
          refine pr_iload_n dX12_wire_74 rfl ?_
          refine pr_iadd dX12_wire_75 ?_
          obtain ⟨g_15, h⟩ := pm_gs h
          refine pr_iald dX12_wire_76 lm_12 rfl g_15 ?_
          refine pr_istore dX12_wire_77 (by decide) rfl ?_
          refine pr_aload_n dX12_wire_79 rfl ?_
          refine pr_getR dX12_wire_80 lk_X12_43 lm_0 rfl ?_
          refine pr_bipush dX12_wire_83 (by decide) ?_
          refine pr_iload_n dX12_wire_85 rfl ?_
          refine pr_imul dX12_wire_86 ?_
          refine pr_iload_n dX12_wire_87 rfl ?_
          refine pr_iadd dX12_wire_88 ?_
          refine pr_iload_n dX12_wire_89 rfl ?_
          obtain ⟨g_16, h⟩ := pm_gs h
          refine pr_iast dX12_wire_90 lm_12 rfl g_16 ?_
          refine pr_iload dX12_wire_91 rfl ?_
          have h := Option.some.inj h
          subst h
          exact pr_iret dX12_wire_93 rfl
        · have h := pm_ng c_14 h
          refine pr_aload_n dX12_wire_59 rfl ?_
          refine pr_iload dX12_wire_60 rfl ?_
          obtain ⟨q17, e18, h⟩ := pm_bs h
          refine pr_callV (As := [pv_i q12]) (S := []) (t := 0) dX12_wire_62 mk_X12_103 lm_0 (ci := 12) (q := (RX12, TX12, 36)) rfl rfl rfl rfl (by decide) (by decide) (by decide) (Or.inl rfl) (tmX12_refuse e18) ?_
          have h := Option.some.inj h
          subst h
          exact pr_iret dX12_wire_65 rfl
      · have h := pm_ng c_11 h
        refine pr_aload_n dX12_wire_38 rfl ?_
        refine pr_bipush dX12_wire_39 (by decide) ?_
        obtain ⟨q19, e20, h⟩ := pm_bs h
        refine pr_callV (As := [pv_i (-3)]) (S := []) (t := 0) dX12_wire_41 mk_X12_103 lm_0 (ci := 12) (q := (RX12, TX12, 36)) rfl rfl rfl rfl (by decide) (by decide) (by decide) (Or.inl rfl) (tmX12_refuse e20) ?_
        have h := Option.some.inj h
        subst h
        exact pr_iret dX12_wire_44 rfl
    · have h := pm_pos c_8 h
      refine pr_aload_n dX12_wire_22 rfl ?_
      refine pr_iconst dX12_wire_23 ?_
      obtain ⟨q21, e22, h⟩ := pm_bs h
      refine pr_callV (As := [pv_i (-1)]) (S := []) (t := 0) dX12_wire_24 mk_X12_103 lm_0 (ci := 12) (q := (RX12, TX12, 36)) rfl rfl rfl rfl (by decide) (by decide) (by decide) (Or.inl rfl) (tmX12_refuse e22) ?_
      have h := Option.some.inj h
      subst h
      exact pr_iret dX12_wire_27 rfl
