def fX12_refuse (x1 : Int) (σ : pm_M) : Option (Int × pm_M) :=
  pm_g (0 ≤ (wr (-x1)) ∧ (wr (-x1)) < 7) (pm_g (0 ≤ (wr (-x1)) ∧ (wr (-x1)) < 7) (some (x1, (pm_up σ 1 (Int.toNat (wr (-x1))) ((σ 1 (Int.toNat (wr (-x1)))) + 1)))))
set_option maxHeartbeats 4000000 in
set_option maxRecDepth 100000 in
theorem tmX12_refuse {x1 : Int} {σ : pm_M} {ρ : Int × pm_M} (h : fX12_refuse x1 σ = some ρ) : pm_C mX12_refuse 0 0 [pv_r 0, pv_i x1] LAYM σ (some (pv_i ρ.1)) LAYM ρ.2 := by
  refine pm_C.of (by decide) rfl (Nat.le_of_ble_eq_true rfl) ?_
  show pm_J mX12_refuse 0 0 LAYM (some (pv_i ρ.1)) LAYM ρ.2 0 [some (pv_r 0), some (pv_i x1)] [] LAYM σ
  unfold fX12_refuse at h
  refine pr_aload_n dX12_refuse_0 rfl ?_
  refine pr_getR dX12_refuse_1 lk_X12_7 lm_0 rfl ?_
  refine pr_iload_n dX12_refuse_4 rfl ?_
  refine pr_ineg dX12_refuse_5 ?_
  refine pr_dup2 dX12_refuse_6 rfl rfl ?_
  obtain ⟨g_1, h⟩ := pm_gs h
  refine pr_iald dX12_refuse_7 lm_1 rfl g_1 ?_
  refine pr_iconst dX12_refuse_8 ?_
  refine pr_iadd dX12_refuse_9 ?_
  obtain ⟨g_2, h⟩ := pm_gs h
  refine pr_iast dX12_refuse_10 lm_1 rfl g_2 ?_
  refine pr_iload_n dX12_refuse_11 rfl ?_
  have h := Option.some.inj h
  subst h
  exact pr_iret dX12_refuse_12 rfl
def bdX12_reckoned_50 (y1 : Int) (y2 : Int) (y4 : Int) (σ : pm_M) (z3 : Int) (z5 : Int) : Option ((Int × Int) ⊕ (Int × Int)) :=
  if (wr y1) ≤ (wr z5) then (some (.inl (z3, z5))) else (pm_g (0 ≤ (wr ((101 * y2) + z5)) ∧ (wr ((101 * y2) + z5)) < 303) (if (wr (σ 2 (Int.toNat (wr ((101 * y2) + z5))))) < 0 then (some (.inr (z3, (z5 + 1)))) else (pm_g (0 ≤ (wr ((101 * y2) + z5)) ∧ (wr ((101 * y2) + z5)) < 303) (some (.inr ((σ 2 (Int.toNat (wr ((101 * y2) + z5)))), (z5 + 1)))))))
set_option maxHeartbeats 4000000 in
set_option maxRecDepth 100000 in
theorem tbX12_reckoned_50 {lay0 lay' : List pm_S} {r : Option pm_V} {σ' : pm_M} (y1 : Int) (y2 : Int) (y4 : Int) (σ : pm_M) : ∀ (a : Int × Int) (e : (Int × Int) ⊕ (Int × Int)), (fun a => bdX12_reckoned_50 y1 y2 y4 σ a.1 a.2) a = some e → (∀ a, e = .inr a → (fun a => pm_J mX12_reckoned 0 0 lay0 r lay' σ' 50 [some (pv_r 0), some (pv_i y1), some (pv_i y2), some (pv_i a.1), some (pv_i y4), some (pv_i a.2)] [] LAYM σ) a) → (∀ a, e = .inl a → (fun a => pm_J mX12_reckoned 0 0 lay0 r lay' σ' 90 [some (pv_r 0), some (pv_i y1), some (pv_i y2), some (pv_i a.1), some (pv_i y4), none] [] LAYM σ) a) → (fun a => pm_J mX12_reckoned 0 0 lay0 r lay' σ' 50 [some (pv_r 0), some (pv_i y1), some (pv_i y2), some (pv_i a.1), some (pv_i y4), some (pv_i a.2)] [] LAYM σ) a := by
  intro a e h hc hx
  obtain ⟨z3, z5⟩ := a
  have h : bdX12_reckoned_50 y1 y2 y4 σ z3 z5 = some e := h
  unfold bdX12_reckoned_50 at h
  show pm_J mX12_reckoned 0 0 lay0 r lay' σ' 50 [some (pv_r 0), some (pv_i y1), some (pv_i y2), some (pv_i z3), some (pv_i y4), some (pv_i z5)] [] LAYM σ
  refine pr_iload dX12_reckoned_50 rfl ?_
  refine pr_iload_n dX12_reckoned_52 rfl ?_
  refine pr_icmp_ge (tgt := 90) dX12_reckoned_53 rfl rfl (by decide) (fun c_4 => ?_) (fun c_4 => ?_)
  · have h := pm_pos c_4 h
    refine pr_weak (L2 := [some (pv_r 0), some (pv_i y1), some (pv_i y2), some (pv_i z3), some (pv_i y4), none]) ⟨Or.inr rfl, Or.inr rfl, Or.inr rfl, Or.inr rfl, Or.inr rfl, Or.inl rfl, trivial⟩ ?_
    exact hx (z3, z5) (Option.some.inj h).symm
  · have h := pm_ng c_4 h
    refine pr_aload_n dX12_reckoned_56 rfl ?_
    refine pr_getR dX12_reckoned_57 lk_X12_13 lm_0 rfl ?_
    refine pr_bipush dX12_reckoned_60 (by decide) ?_
    refine pr_iload_n dX12_reckoned_62 rfl ?_
    refine pr_imul dX12_reckoned_63 ?_
    refine pr_iload dX12_reckoned_64 rfl ?_
    refine pr_iadd dX12_reckoned_66 ?_
    obtain ⟨g_5, h⟩ := pm_gs h
    refine pr_iald dX12_reckoned_67 lm_2 rfl g_5 ?_
    refine pr_if_lt (tgt := 84) dX12_reckoned_68 rfl (by decide) (fun c_6 => ?_) (fun c_6 => ?_)
    · have h := pm_pos c_6 h
      refine pr_iinc dX12_reckoned_84 rfl (by decide) rfl ?_
      refine pr_goto (tgt := 50) dX12_reckoned_87 (by decide) ?_
      refine pr_weak (L2 := [some (pv_r 0), some (pv_i y1), some (pv_i y2), some (pv_i z3), some (pv_i y4), some (pv_i (z5 + 1))]) ⟨Or.inr rfl, Or.inr rfl, Or.inr rfl, Or.inr rfl, Or.inr rfl, Or.inr rfl, trivial⟩ ?_
      exact hc (z3, (z5 + 1)) (Option.some.inj h).symm
    · have h := pm_ng c_6 h
      refine pr_aload_n dX12_reckoned_71 rfl ?_
      refine pr_getR dX12_reckoned_72 lk_X12_13 lm_0 rfl ?_
      refine pr_bipush dX12_reckoned_75 (by decide) ?_
      refine pr_iload_n dX12_reckoned_77 rfl ?_
      refine pr_imul dX12_reckoned_78 ?_
      refine pr_iload dX12_reckoned_79 rfl ?_
      refine pr_iadd dX12_reckoned_81 ?_
      obtain ⟨g_7, h⟩ := pm_gs h
      refine pr_iald dX12_reckoned_82 lm_2 rfl g_7 ?_
      refine pr_istore_n dX12_reckoned_83 (by decide) rfl ?_
      refine pr_iinc dX12_reckoned_84 rfl (by decide) rfl ?_
      refine pr_goto (tgt := 50) dX12_reckoned_87 (by decide) ?_
      refine pr_weak (L2 := [some (pv_r 0), some (pv_i y1), some (pv_i y2), some (pv_i (σ 2 (Int.toNat (wr ((101 * y2) + z5))))), some (pv_i y4), some (pv_i (z5 + 1))]) ⟨Or.inr rfl, Or.inr rfl, Or.inr rfl, Or.inr rfl, Or.inr rfl, Or.inr rfl, trivial⟩ ?_
      exact hc ((σ 2 (Int.toNat (wr ((101 * y2) + z5)))), (z5 + 1)) (Option.some.inj h).symm
def bdX12_reckoned_94 (y1 : Int) (y2 : Int) (y3 : Int) (σ : pm_M) (z4 : Int) (z5 : Int) : Option ((Int × Int) ⊕ (Int × Int)) :=
  if (wr z5) ≤ (wr y1) then (some (.inl (z4, z5))) else (pm_g (0 ≤ (wr ((101 * y2) + z5)) ∧ (wr ((101 * y2) + z5)) < 303) (if (wr (σ 2 (Int.toNat (wr ((101 * y2) + z5))))) < 0 then (some (.inr (z4, (z5 + (-1))))) else (pm_g (0 ≤ (wr ((101 * y2) + z5)) ∧ (wr ((101 * y2) + z5)) < 303) (some (.inr ((σ 2 (Int.toNat (wr ((101 * y2) + z5)))), (z5 + (-1))))))))
set_option maxHeartbeats 4000000 in
set_option maxRecDepth 100000 in
theorem tbX12_reckoned_94 {lay0 lay' : List pm_S} {r : Option pm_V} {σ' : pm_M} (y1 : Int) (y2 : Int) (y3 : Int) (σ : pm_M) : ∀ (a : Int × Int) (e : (Int × Int) ⊕ (Int × Int)), (fun a => bdX12_reckoned_94 y1 y2 y3 σ a.1 a.2) a = some e → (∀ a, e = .inr a → (fun a => pm_J mX12_reckoned 0 0 lay0 r lay' σ' 94 [some (pv_r 0), some (pv_i y1), some (pv_i y2), some (pv_i y3), some (pv_i a.1), some (pv_i a.2)] [] LAYM σ) a) → (∀ a, e = .inl a → (fun a => pm_J mX12_reckoned 0 0 lay0 r lay' σ' 135 [none, none, some (pv_i y2), some (pv_i y3), some (pv_i a.1), none] [] LAYM σ) a) → (fun a => pm_J mX12_reckoned 0 0 lay0 r lay' σ' 94 [some (pv_r 0), some (pv_i y1), some (pv_i y2), some (pv_i y3), some (pv_i a.1), some (pv_i a.2)] [] LAYM σ) a := by
  intro a e h hc hx
  obtain ⟨z4, z5⟩ := a
  have h : bdX12_reckoned_94 y1 y2 y3 σ z4 z5 = some e := h
  unfold bdX12_reckoned_94 at h
  show pm_J mX12_reckoned 0 0 lay0 r lay' σ' 94 [some (pv_r 0), some (pv_i y1), some (pv_i y2), some (pv_i y3), some (pv_i z4), some (pv_i z5)] [] LAYM σ
  refine pr_iload dX12_reckoned_94 rfl ?_
  refine pr_iload_n dX12_reckoned_96 rfl ?_
  refine pr_icmp_le (tgt := 135) dX12_reckoned_97 rfl rfl (by decide) (fun c_10 => ?_) (fun c_10 => ?_)
  · have h := pm_pos c_10 h
    refine pr_weak (L2 := [none, none, some (pv_i y2), some (pv_i y3), some (pv_i z4), none]) ⟨Or.inl rfl, Or.inl rfl, Or.inr rfl, Or.inr rfl, Or.inr rfl, Or.inl rfl, trivial⟩ ?_
    exact hx (z4, z5) (Option.some.inj h).symm
  · have h := pm_ng c_10 h
    refine pr_aload_n dX12_reckoned_100 rfl ?_
    refine pr_getR dX12_reckoned_101 lk_X12_13 lm_0 rfl ?_
    refine pr_bipush dX12_reckoned_104 (by decide) ?_
    refine pr_iload_n dX12_reckoned_106 rfl ?_
    refine pr_imul dX12_reckoned_107 ?_
    refine pr_iload dX12_reckoned_108 rfl ?_
    refine pr_iadd dX12_reckoned_110 ?_
    obtain ⟨g_11, h⟩ := pm_gs h
    refine pr_iald dX12_reckoned_111 lm_2 rfl g_11 ?_
    refine pr_if_lt (tgt := 129) dX12_reckoned_112 rfl (by decide) (fun c_12 => ?_) (fun c_12 => ?_)
    · have h := pm_pos c_12 h
      refine pr_iinc dX12_reckoned_129 rfl (by decide) rfl ?_
      refine pr_goto (tgt := 94) dX12_reckoned_132 (by decide) ?_
      refine pr_weak (L2 := [some (pv_r 0), some (pv_i y1), some (pv_i y2), some (pv_i y3), some (pv_i z4), some (pv_i (z5 + (-1)))]) ⟨Or.inr rfl, Or.inr rfl, Or.inr rfl, Or.inr rfl, Or.inr rfl, Or.inr rfl, trivial⟩ ?_
      exact hc (z4, (z5 + (-1))) (Option.some.inj h).symm
    · have h := pm_ng c_12 h
      refine pr_aload_n dX12_reckoned_115 rfl ?_
      refine pr_getR dX12_reckoned_116 lk_X12_13 lm_0 rfl ?_
      refine pr_bipush dX12_reckoned_119 (by decide) ?_
      refine pr_iload_n dX12_reckoned_121 rfl ?_
      refine pr_imul dX12_reckoned_122 ?_
      refine pr_iload dX12_reckoned_123 rfl ?_
      refine pr_iadd dX12_reckoned_125 ?_
      obtain ⟨g_13, h⟩ := pm_gs h
      refine pr_iald dX12_reckoned_126 lm_2 rfl g_13 ?_
      refine pr_istore dX12_reckoned_127 (by decide) rfl ?_
      refine pr_iinc dX12_reckoned_129 rfl (by decide) rfl ?_
      refine pr_goto (tgt := 94) dX12_reckoned_132 (by decide) ?_
      refine pr_weak (L2 := [some (pv_r 0), some (pv_i y1), some (pv_i y2), some (pv_i y3), some (pv_i (σ 2 (Int.toNat (wr ((101 * y2) + z5))))), some (pv_i (z5 + (-1)))]) ⟨Or.inr rfl, Or.inr rfl, Or.inr rfl, Or.inr rfl, Or.inr rfl, Or.inr rfl, trivial⟩ ?_
      exact hc ((σ 2 (Int.toNat (wr ((101 * y2) + z5)))), (z5 + (-1))) (Option.some.inj h).symm
def jnX12_reckoned_155 (w3 : Int) (w4 : Int) (σ : pm_M) : Option (Int) :=
  if 0 ≤ (wr w3) then (if 0 ≤ (wr w4) then (some (Int.tdiv (wr (w3 + w4)) 2)) else (some w3)) else (some w4)
set_option maxHeartbeats 4000000 in
set_option maxRecDepth 100000 in
theorem tjX12_reckoned_155 {lay0 : List pm_S} {w3 : Int} {w4 : Int} {σ : pm_M} {ρ : Int} (h : jnX12_reckoned_155 w3 w4 σ = some ρ) : pm_J mX12_reckoned 0 0 lay0 (some (pv_i ρ)) LAYM σ 155 [none, none, none, some (pv_i w3), some (pv_i w4), none] [] LAYM σ := by
  unfold jnX12_reckoned_155 at h
  refine pr_iload_n dX12_reckoned_155 rfl ?_
  refine pr_if_ge (tgt := 164) dX12_reckoned_156 rfl (by decide) (fun c_17 => ?_) (fun c_17 => ?_)
  · have h := pm_pos c_17 h
    refine pr_iload dX12_reckoned_164 rfl ?_
    refine pr_if_ge (tgt := 173) dX12_reckoned_166 rfl (by decide) (fun c_18 => ?_) (fun c_18 => ?_)
    · have h := pm_pos c_18 h
      refine pr_iload_n dX12_reckoned_173 rfl ?_
      refine pr_iload dX12_reckoned_174 rfl ?_
      refine pr_iadd dX12_reckoned_176 ?_
      refine pr_iconst dX12_reckoned_177 ?_
      refine pr_idiv dX12_reckoned_178 rfl (wr_eq (by decide) (by decide)) (by decide) ?_
      have h := Option.some.inj h
      subst h
      exact pr_iret dX12_reckoned_179 rfl
    · have h := pm_ng c_18 h
      refine pr_iload_n dX12_reckoned_169 rfl ?_
      refine pr_goto (tgt := 179) dX12_reckoned_170 (by decide) ?_
      have h := Option.some.inj h
      subst h
      exact pr_iret dX12_reckoned_179 rfl
  · have h := pm_ng c_17 h
    refine pr_iload dX12_reckoned_159 rfl ?_
    refine pr_goto (tgt := 179) dX12_reckoned_161 (by decide) ?_
    have h := Option.some.inj h
    subst h
    exact pr_iret dX12_reckoned_179 rfl
def fX12_reckoned (x1 : Int) (x2 : Int) (σ : pm_M) : Option (Int) :=
  if (wr x2) = 2 then (pm_g (0 ≤ (wr (202 + x1)) ∧ (wr (202 + x1)) < 303) (some (σ 2 (Int.toNat (wr (202 + x1)))))) else (pm_g (0 ≤ (wr ((101 * x2) + x1)) ∧ (wr ((101 * x2) + x1)) < 303) (if (wr (σ 2 (Int.toNat (wr ((101 * x2) + x1))))) < 0 then ((pm_it (fun a => bdX12_reckoned_50 x1 x2 (-1) σ a.1 a.2) pm_fuel ((-1), 0)).bind fun v8 => (pm_it (fun a => bdX12_reckoned_94 x1 x2 v8.1 σ a.1 a.2) pm_fuel ((-1), 100)).bind fun v14 => if 0 ≤ (wr v8.1) then (jnX12_reckoned_155 v8.1 v14.1 σ) else (if 0 ≤ (wr v14.1) then (jnX12_reckoned_155 v8.1 v14.1 σ) else (if (wr x2) = 0 then (some 20) else (some 4)))) else (pm_g (0 ≤ (wr ((101 * x2) + x1)) ∧ (wr ((101 * x2) + x1)) < 303) (some (σ 2 (Int.toNat (wr ((101 * x2) + x1))))))))
set_option maxHeartbeats 4000000 in
set_option maxRecDepth 100000 in
theorem tmX12_reckoned {x1 : Int} {x2 : Int} {σ : pm_M} {ρ : Int} (h : fX12_reckoned x1 x2 σ = some ρ) : pm_C mX12_reckoned 0 0 [pv_r 0, pv_i x1, pv_i x2] LAYM σ (some (pv_i ρ)) LAYM σ := by
  refine pm_C.of (by decide) rfl (Nat.le_of_ble_eq_true rfl) ?_
  show pm_J mX12_reckoned 0 0 LAYM (some (pv_i ρ)) LAYM σ 0 [some (pv_r 0), some (pv_i x1), some (pv_i x2), none, none, none] [] LAYM σ
  unfold fX12_reckoned at h
  refine pr_iload_n dX12_reckoned_0 rfl ?_
  refine pr_iconst dX12_reckoned_1 ?_
  refine pr_icmp_ne (tgt := 16) dX12_reckoned_2 rfl (wr_eq (by decide) (by decide)) (by decide) (fun c_1 => ?_) (fun c_1 => ?_)
  · have h := pm_ng c_1 h
    refine pr_aload_n dX12_reckoned_16 rfl ?_
    refine pr_getR dX12_reckoned_17 lk_X12_13 lm_0 rfl ?_
    refine pr_bipush dX12_reckoned_20 (by decide) ?_
    refine pr_iload_n dX12_reckoned_22 rfl ?_
    refine pr_imul dX12_reckoned_23 ?_
    refine pr_iload_n dX12_reckoned_24 rfl ?_
    refine pr_iadd dX12_reckoned_25 ?_
    obtain ⟨g_2, h⟩ := pm_gs h
    refine pr_iald dX12_reckoned_26 lm_2 rfl g_2 ?_
    refine pr_if_lt (tgt := 42) dX12_reckoned_27 rfl (by decide) (fun c_3 => ?_) (fun c_3 => ?_)
    · have h := pm_pos c_3 h
      refine pr_iconst dX12_reckoned_42 ?_
      refine pr_istore_n dX12_reckoned_43 (by decide) rfl ?_
      refine pr_iconst dX12_reckoned_44 ?_
      refine pr_istore dX12_reckoned_45 (by decide) rfl ?_
      refine pr_iconst dX12_reckoned_47 ?_
      refine pr_istore dX12_reckoned_48 (by decide) rfl ?_
      obtain ⟨v8, e9, h⟩ := pm_bs h
      refine pr_weak (L2 := [some (pv_r 0), some (pv_i x1), some (pv_i x2), some (pv_i (-1)), some (pv_i (-1)), some (pv_i 0)]) ⟨Or.inr rfl, Or.inr rfl, Or.inr rfl, Or.inr rfl, Or.inr rfl, Or.inr rfl, trivial⟩ ?_
      refine pm_it_J (α := Int × Int) (β := Int × Int) (f := fun a => bdX12_reckoned_50 x1 x2 (-1) σ a.1 a.2) (P := fun a => pm_J mX12_reckoned 0 0 LAYM (some (pv_i ρ)) LAYM σ 50 [some (pv_r 0), some (pv_i x1), some (pv_i x2), some (pv_i a.1), some (pv_i (-1)), some (pv_i a.2)] [] LAYM σ) (Rx := fun a => pm_J mX12_reckoned 0 0 LAYM (some (pv_i ρ)) LAYM σ 90 [some (pv_r 0), some (pv_i x1), some (pv_i x2), some (pv_i a.1), some (pv_i (-1)), none] [] LAYM σ) (tbX12_reckoned_50 x1 x2 (-1) σ) pm_fuel ((-1), 0) v8 e9 ?_
      show pm_J mX12_reckoned 0 0 LAYM (some (pv_i ρ)) LAYM σ 90 [some (pv_r 0), some (pv_i x1), some (pv_i x2), some (pv_i v8.1), some (pv_i (-1)), none] [] LAYM σ
      refine pr_bipush dX12_reckoned_90 (by decide) ?_
      refine pr_istore dX12_reckoned_92 (by decide) rfl ?_
      obtain ⟨v14, e15, h⟩ := pm_bs h
      refine pr_weak (L2 := [some (pv_r 0), some (pv_i x1), some (pv_i x2), some (pv_i v8.1), some (pv_i (-1)), some (pv_i 100)]) ⟨Or.inr rfl, Or.inr rfl, Or.inr rfl, Or.inr rfl, Or.inr rfl, Or.inr rfl, trivial⟩ ?_
      refine pm_it_J (α := Int × Int) (β := Int × Int) (f := fun a => bdX12_reckoned_94 x1 x2 v8.1 σ a.1 a.2) (P := fun a => pm_J mX12_reckoned 0 0 LAYM (some (pv_i ρ)) LAYM σ 94 [some (pv_r 0), some (pv_i x1), some (pv_i x2), some (pv_i v8.1), some (pv_i a.1), some (pv_i a.2)] [] LAYM σ) (Rx := fun a => pm_J mX12_reckoned 0 0 LAYM (some (pv_i ρ)) LAYM σ 135 [none, none, some (pv_i x2), some (pv_i v8.1), some (pv_i a.1), none] [] LAYM σ) (tbX12_reckoned_94 x1 x2 v8.1 σ) pm_fuel ((-1), 100) v14 e15 ?_
      show pm_J mX12_reckoned 0 0 LAYM (some (pv_i ρ)) LAYM σ 135 [none, none, some (pv_i x2), some (pv_i v8.1), some (pv_i v14.1), none] [] LAYM σ
      refine pr_iload_n dX12_reckoned_135 rfl ?_
      refine pr_if_ge (tgt := 155) dX12_reckoned_136 rfl (by decide) (fun c_16 => ?_) (fun c_16 => ?_)
      · have h := pm_pos c_16 h
        refine pr_weak (L2 := [none, none, none, some (pv_i v8.1), some (pv_i v14.1), none]) ⟨Or.inl rfl, Or.inl rfl, Or.inl rfl, Or.inr rfl, Or.inr rfl, Or.inl rfl, trivial⟩ ?_
        exact tjX12_reckoned_155 h
      · have h := pm_ng c_16 h
        refine pr_iload dX12_reckoned_139 rfl ?_
        refine pr_if_ge (tgt := 155) dX12_reckoned_141 rfl (by decide) (fun c_19 => ?_) (fun c_19 => ?_)
        · have h := pm_pos c_19 h
          refine pr_weak (L2 := [none, none, none, some (pv_i v8.1), some (pv_i v14.1), none]) ⟨Or.inl rfl, Or.inl rfl, Or.inl rfl, Or.inr rfl, Or.inr rfl, Or.inl rfl, trivial⟩ ?_
          exact tjX12_reckoned_155 h
        · have h := pm_ng c_19 h
          refine pr_iload_n dX12_reckoned_144 rfl ?_
          refine pr_if_ne (tgt := 153) dX12_reckoned_145 rfl (by decide) (fun c_20 => ?_) (fun c_20 => ?_)
          · have h := pm_ng c_20 h
            refine pr_iconst dX12_reckoned_153 ?_
            have h := Option.some.inj h
            subst h
            exact pr_iret dX12_reckoned_154 rfl
          · have h := pm_pos c_20 h
            refine pr_bipush dX12_reckoned_148 (by decide) ?_
            refine pr_goto (tgt := 154) dX12_reckoned_150 (by decide) ?_
            have h := Option.some.inj h
            subst h
            exact pr_iret dX12_reckoned_154 rfl
    · have h := pm_ng c_3 h
      refine pr_aload_n dX12_reckoned_30 rfl ?_
      refine pr_getR dX12_reckoned_31 lk_X12_13 lm_0 rfl ?_
      refine pr_bipush dX12_reckoned_34 (by decide) ?_
      refine pr_iload_n dX12_reckoned_36 rfl ?_
      refine pr_imul dX12_reckoned_37 ?_
      refine pr_iload_n dX12_reckoned_38 rfl ?_
      refine pr_iadd dX12_reckoned_39 ?_
      obtain ⟨g_21, h⟩ := pm_gs h
      refine pr_iald dX12_reckoned_40 lm_2 rfl g_21 ?_
      have h := Option.some.inj h
      subst h
      exact pr_iret dX12_reckoned_41 rfl
  · have h := pm_pos c_1 h
    refine pr_aload_n dX12_reckoned_5 rfl ?_
    refine pr_getR dX12_reckoned_6 lk_X12_13 lm_0 rfl ?_
    refine pr_sipush dX12_reckoned_9 (by decide) ?_
    refine pr_iload_n dX12_reckoned_12 rfl ?_
    refine pr_iadd dX12_reckoned_13 ?_
    obtain ⟨g_22, h⟩ := pm_gs h
    refine pr_iald dX12_reckoned_14 lm_2 rfl g_22 ?_
    have h := Option.some.inj h
    subst h
    exact pr_iret dX12_reckoned_15 rfl
def jnX12_day_60 (w1 : Int) (w2 : Int) (w3 : Int) (u0 : Int) (σ : pm_M) : Option (Int × pm_M) :=
  if (wr u0) = 0 then ((fX12_reckoned w1 w2 σ).bind fun q13 => pm_g (0 ≤ (wr ((101 * w2) + w1)) ∧ (wr ((101 * w2) + w1)) < 303) (some (q13, (pm_up σ 2 (Int.toNat (wr ((101 * w2) + w1))) w3)))) else ((fX12_refuse u0 σ).bind fun q16 => some (q16.1, q16.2))
set_option maxHeartbeats 4000000 in
set_option maxRecDepth 100000 in
theorem tjX12_day_60 {lay0 : List pm_S} {w1 : Int} {w2 : Int} {w3 : Int} {u0 : Int} {σ : pm_M} {ρ : Int × pm_M} (h : jnX12_day_60 w1 w2 w3 u0 σ = some ρ) : pm_J mX12_day 1 25 lay0 (some (pv_i ρ.1)) LAYM ρ.2 60 [some (pv_r 0), some (pv_i w1), some (pv_i w2), some (pv_i w3), none, none] [pv_i u0] LAYM σ := by
  unfold jnX12_day_60 at h
  refine pr_istore dX12_day_60 (by decide) rfl ?_
  refine pr_iload dX12_day_62 rfl ?_
  refine pr_if_eq (tgt := 74) dX12_day_64 rfl (by decide) (fun c_12 => ?_) (fun c_12 => ?_)
  · have h := pm_pos c_12 h
    refine pr_aload_n dX12_day_74 rfl ?_
    refine pr_iload_n dX12_day_75 rfl ?_
    refine pr_iload_n dX12_day_76 rfl ?_
    obtain ⟨q13, e14, h⟩ := pm_bs h
    refine pr_callV (As := [pv_i w1, pv_i w2]) (S := []) (t := 0) dX12_day_77 mk_X12_107 lm_0 (ci := 12) (q := (RX12, TX12, 36)) rfl rfl rfl rfl (Nat.le_of_ble_eq_true rfl) (by decide) (by decide) (Or.inl rfl) (tmX12_reckoned e14) ?_
    refine pr_istore dX12_day_80 (by decide) rfl ?_
    refine pr_aload_n dX12_day_82 rfl ?_
    refine pr_getR dX12_day_83 lk_X12_13 lm_0 rfl ?_
    refine pr_bipush dX12_day_86 (by decide) ?_
    refine pr_iload_n dX12_day_88 rfl ?_
    refine pr_imul dX12_day_89 ?_
    refine pr_iload_n dX12_day_90 rfl ?_
    refine pr_iadd dX12_day_91 ?_
    refine pr_iload_n dX12_day_92 rfl ?_
    obtain ⟨g_15, h⟩ := pm_gs h
    refine pr_iast dX12_day_93 lm_2 rfl g_15 ?_
    refine pr_iload dX12_day_94 rfl ?_
    have h := Option.some.inj h
    subst h
    exact pr_iret dX12_day_96 rfl
  · have h := pm_ng c_12 h
    refine pr_aload_n dX12_day_67 rfl ?_
    refine pr_iload dX12_day_68 rfl ?_
    obtain ⟨q16, e17, h⟩ := pm_bs h
    refine pr_callV (As := [pv_i u0]) (S := []) (t := 0) dX12_day_70 mk_X12_103 lm_0 (ci := 12) (q := (RX12, TX12, 36)) rfl rfl rfl rfl (Nat.le_of_ble_eq_true rfl) (by decide) (by decide) (Or.inl rfl) (tmX12_refuse e17) ?_
    have h := Option.some.inj h
    subst h
    exact pr_iret dX12_day_73 rfl
def jnX12_day_57 (w1 : Int) (w2 : Int) (w3 : Int) (u0 : Int) (u1 : Int) (u2 : Int) (σ : pm_M) : Option (Int × pm_M) :=
  (fX12_wrong u2 u1 u0).bind fun q10 => jnX12_day_60 w1 w2 w3 q10 σ
set_option maxHeartbeats 4000000 in
set_option maxRecDepth 100000 in
theorem tjX12_day_57 {lay0 : List pm_S} {w1 : Int} {w2 : Int} {w3 : Int} {u0 : Int} {u1 : Int} {u2 : Int} {σ : pm_M} {ρ : Int × pm_M} (h : jnX12_day_57 w1 w2 w3 u0 u1 u2 σ = some ρ) : pm_J mX12_day 1 25 lay0 (some (pv_i ρ.1)) LAYM ρ.2 57 [some (pv_r 0), some (pv_i w1), some (pv_i w2), some (pv_i w3), none, none] [pv_i u0, pv_i u1, pv_i u2] LAYM σ := by
  unfold jnX12_day_57 at h
  obtain ⟨q10, e11, h⟩ := pm_bs h
  refine pr_callS (av := [pv_i u2, pv_i u1, pv_i u0]) (S := []) dX12_day_57 mk_X12_99 rfl rfl (Nat.le_of_ble_eq_true rfl) (by decide) (by decide) (Or.inl rfl) (tmX12_wrong e11) ?_
  refine pr_weak (L2 := [some (pv_r 0), some (pv_i w1), some (pv_i w2), some (pv_i w3), none, none]) ⟨Or.inr rfl, Or.inr rfl, Or.inr rfl, Or.inr rfl, Or.inl rfl, Or.inl rfl, trivial⟩ ?_
  exact tjX12_day_60 h
def jnX12_day_37 (w1 : Int) (w2 : Int) (w3 : Int) (u0 : Int) (u1 : Int) (σ : pm_M) : Option (Int × pm_M) :=
  if (wr w2) = 0 then (jnX12_day_57 w1 w2 w3 60 u0 u1 σ) else (if (wr w2) = 1 then (jnX12_day_57 w1 w2 w3 9 u0 u1 σ) else (jnX12_day_57 w1 w2 w3 1 u0 u1 σ))
set_option maxHeartbeats 4000000 in
set_option maxRecDepth 100000 in
theorem tjX12_day_37 {lay0 : List pm_S} {w1 : Int} {w2 : Int} {w3 : Int} {u0 : Int} {u1 : Int} {σ : pm_M} {ρ : Int × pm_M} (h : jnX12_day_37 w1 w2 w3 u0 u1 σ = some ρ) : pm_J mX12_day 1 25 lay0 (some (pv_i ρ.1)) LAYM ρ.2 37 [some (pv_r 0), some (pv_i w1), some (pv_i w2), some (pv_i w3), none, none] [pv_i u0, pv_i u1] LAYM σ := by
  unfold jnX12_day_37 at h
  refine pr_iload_n dX12_day_37 rfl ?_
  refine pr_if_ne (tgt := 46) dX12_day_38 rfl (by decide) (fun c_8 => ?_) (fun c_8 => ?_)
  · have h := pm_ng c_8 h
    refine pr_iload_n dX12_day_46 rfl ?_
    refine pr_iconst dX12_day_47 ?_
    refine pr_icmp_ne (tgt := 56) dX12_day_48 rfl (wr_eq (by decide) (by decide)) (by decide) (fun c_9 => ?_) (fun c_9 => ?_)
    · have h := pm_ng c_9 h
      refine pr_iconst dX12_day_56 ?_
      refine pr_weak (L2 := [some (pv_r 0), some (pv_i w1), some (pv_i w2), some (pv_i w3), none, none]) ⟨Or.inr rfl, Or.inr rfl, Or.inr rfl, Or.inr rfl, Or.inl rfl, Or.inl rfl, trivial⟩ ?_
      exact tjX12_day_57 h
    · have h := pm_pos c_9 h
      refine pr_bipush dX12_day_51 (by decide) ?_
      refine pr_goto (tgt := 57) dX12_day_53 (by decide) ?_
      refine pr_weak (L2 := [some (pv_r 0), some (pv_i w1), some (pv_i w2), some (pv_i w3), none, none]) ⟨Or.inr rfl, Or.inr rfl, Or.inr rfl, Or.inr rfl, Or.inl rfl, Or.inl rfl, trivial⟩ ?_
      exact tjX12_day_57 h
  · have h := pm_pos c_8 h
    refine pr_bipush dX12_day_41 (by decide) ?_
    refine pr_goto (tgt := 57) dX12_day_43 (by decide) ?_
    refine pr_weak (L2 := [some (pv_r 0), some (pv_i w1), some (pv_i w2), some (pv_i w3), none, none]) ⟨Or.inr rfl, Or.inr rfl, Or.inr rfl, Or.inr rfl, Or.inl rfl, Or.inl rfl, trivial⟩ ?_
    exact tjX12_day_57 h
def fX12_day (x1 : Int) (x2 : Int) (x3 : Int) (σ : pm_M) : Option (Int × pm_M) :=
  (fX12_isIn x1 101).bind fun q1 => if (wr q1) = 0 then (jnX12_day_60 x1 x2 x3 (-1) σ) else ((fX12_isIn x2 3).bind fun q4 => if (wr q4) = 0 then (jnX12_day_60 x1 x2 x3 (-2) σ) else (if (wr x2) = 2 then (jnX12_day_37 x1 x2 x3 0 x3 σ) else (jnX12_day_37 x1 x2 x3 (-1) x3 σ)))
set_option maxHeartbeats 4000000 in
set_option maxRecDepth 100000 in
theorem tmX12_day {x1 : Int} {x2 : Int} {x3 : Int} {σ : pm_M} {ρ : Int × pm_M} (h : fX12_day x1 x2 x3 σ = some ρ) : pm_C mX12_day 1 25 [pv_r 0, pv_i x1, pv_i x2, pv_i x3] LAYM σ (some (pv_i ρ.1)) LAYM ρ.2 := by
  refine pm_C.of (by decide) rfl (Nat.le_of_ble_eq_true rfl) ?_
  show pm_J mX12_day 1 25 LAYM (some (pv_i ρ.1)) LAYM ρ.2 0 [some (pv_r 0), some (pv_i x1), some (pv_i x2), some (pv_i x3), none, none] [] LAYM σ
  unfold fX12_day at h
  refine pr_iload_n dX12_day_0 rfl ?_
  refine pr_bipush dX12_day_1 (by decide) ?_
  obtain ⟨q1, e2, h⟩ := pm_bs h
  refine pr_callS (av := [pv_i x1, pv_i 101]) (S := []) dX12_day_3 mk_X12_95 rfl rfl (Nat.le_of_ble_eq_true rfl) (by decide) (by decide) (Or.inl rfl) (tmX12_isIn e2) ?_
  refine pr_if_ne (tgt := 13) dX12_day_6 rfl (by decide) (fun c_3 => ?_) (fun c_3 => ?_)
  · have h := pm_ng c_3 h
    refine pr_iload_n dX12_day_13 rfl ?_
    refine pr_iconst dX12_day_14 ?_
    obtain ⟨q4, e5, h⟩ := pm_bs h
    refine pr_callS (av := [pv_i x2, pv_i 3]) (S := []) dX12_day_15 mk_X12_95 rfl rfl (Nat.le_of_ble_eq_true rfl) (by decide) (by decide) (Or.inl rfl) (tmX12_isIn e5) ?_
    refine pr_if_ne (tgt := 26) dX12_day_18 rfl (by decide) (fun c_6 => ?_) (fun c_6 => ?_)
    · have h := pm_ng c_6 h
      refine pr_iload_n dX12_day_26 rfl ?_
      refine pr_iload_n dX12_day_27 rfl ?_
      refine pr_iconst dX12_day_28 ?_
      refine pr_icmp_ne (tgt := 36) dX12_day_29 rfl (wr_eq (by decide) (by decide)) (by decide) (fun c_7 => ?_) (fun c_7 => ?_)
      · have h := pm_ng c_7 h
        refine pr_iconst dX12_day_36 ?_
        refine pr_weak (L2 := [some (pv_r 0), some (pv_i x1), some (pv_i x2), some (pv_i x3), none, none]) ⟨Or.inr rfl, Or.inr rfl, Or.inr rfl, Or.inr rfl, Or.inl rfl, Or.inl rfl, trivial⟩ ?_
        exact tjX12_day_37 h
      · have h := pm_pos c_7 h
        refine pr_iconst dX12_day_32 ?_
        refine pr_goto (tgt := 37) dX12_day_33 (by decide) ?_
        refine pr_weak (L2 := [some (pv_r 0), some (pv_i x1), some (pv_i x2), some (pv_i x3), none, none]) ⟨Or.inr rfl, Or.inr rfl, Or.inr rfl, Or.inr rfl, Or.inl rfl, Or.inl rfl, trivial⟩ ?_
        exact tjX12_day_37 h
    · have h := pm_pos c_6 h
      refine pr_bipush dX12_day_21 (by decide) ?_
      refine pr_goto (tgt := 60) dX12_day_23 (by decide) ?_
      refine pr_weak (L2 := [some (pv_r 0), some (pv_i x1), some (pv_i x2), some (pv_i x3), none, none]) ⟨Or.inr rfl, Or.inr rfl, Or.inr rfl, Or.inr rfl, Or.inl rfl, Or.inl rfl, trivial⟩ ?_
      exact tjX12_day_60 h
  · have h := pm_pos c_3 h
    refine pr_iconst dX12_day_9 ?_
    refine pr_goto (tgt := 60) dX12_day_10 (by decide) ?_
    refine pr_weak (L2 := [some (pv_r 0), some (pv_i x1), some (pv_i x2), some (pv_i x3), none, none]) ⟨Or.inr rfl, Or.inr rfl, Or.inr rfl, Or.inr rfl, Or.inl rfl, Or.inl rfl, trivial⟩ ?_
    exact tjX12_day_60 h
