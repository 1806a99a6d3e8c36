def bdX12_inState_4 (y1 : Int) (σ : pm_M) (z2 : Int) (z3 : Int) : Option ((Int × Int) ⊕ (Int × Int)) :=
  if (wr (σ 25 (Int.toNat 752))) ≤ (wr z3) then (some (.inl (z2, z3))) else ((fX12_post z3 0 σ).bind fun q2 => if (wr q2) = (wr y1) then (some (.inr ((z2 + 1), (z3 + 1)))) else (some (.inr ((z2 + 0), (z3 + 1)))))
set_option maxHeartbeats 4000000 in
set_option maxRecDepth 100000 in
theorem tbX12_inState_4 {lay0 lay' : List pm_S} {r : Option pm_V} {σ' : pm_M} (y1 : Int) (σ : pm_M) : ∀ (a : Int × Int) (e : (Int × Int) ⊕ (Int × Int)), (fun a => bdX12_inState_4 y1 σ a.1 a.2) a = some e → (∀ a, e = .inr a → (fun a => pm_J mX12_inState 1 22 lay0 r lay' σ' 4 [some (pv_r 0), some (pv_i y1), some (pv_i a.1), some (pv_i a.2)] [] LAYM σ) a) → (∀ a, e = .inl a → (fun a => pm_J mX12_inState 1 22 lay0 r lay' σ' 40 [none, none, some (pv_i a.1), none] [] LAYM σ) a) → (fun a => pm_J mX12_inState 1 22 lay0 r lay' σ' 4 [some (pv_r 0), some (pv_i y1), some (pv_i a.1), some (pv_i a.2)] [] LAYM σ) a := by
  intro a e h hc hx
  obtain ⟨z2, z3⟩ := a
  have h : bdX12_inState_4 y1 σ z2 z3 = some e := h
  unfold bdX12_inState_4 at h
  show pm_J mX12_inState 1 22 lay0 r lay' σ' 4 [some (pv_r 0), some (pv_i y1), some (pv_i z2), some (pv_i z3)] [] LAYM σ
  refine pr_iload_n dX12_inState_4 rfl ?_
  refine pr_aload_n dX12_inState_5 rfl ?_
  refine pr_getR dX12_inState_6 lk_X12_86 lm_0 rfl ?_
  refine pr_sipush dX12_inState_9 (by decide) ?_
  refine pr_iald dX12_inState_12 lm_25 (wr_eq (by decide) (by decide)) ⟨by decide, by decide⟩ ?_
  refine pr_icmp_ge (tgt := 40) dX12_inState_13 rfl rfl (by decide) (fun c_1 => ?_) (fun c_1 => ?_)
  · have h := pm_pos c_1 h
    refine pr_weak (L2 := [none, none, some (pv_i z2), none]) ⟨Or.inl rfl, Or.inl rfl, Or.inr rfl, Or.inl rfl, trivial⟩ ?_
    exact hx (z2, z3) (Option.some.inj h).symm
  · have h := pm_ng c_1 h
    refine pr_iload_n dX12_inState_16 rfl ?_
    refine pr_aload_n dX12_inState_17 rfl ?_
    refine pr_iload_n dX12_inState_18 rfl ?_
    refine pr_iconst dX12_inState_19 ?_
    obtain ⟨q2, e3, h⟩ := pm_bs h
    refine pr_callV (As := [pv_i z3, pv_i 0]) (S := [pv_i z2]) (t := 0) dX12_inState_20 mk_X12_138 lm_0 (ci := 12) (q := (RX12, TX12, 36)) rfl rfl rfl rfl (Nat.le_of_ble_eq_true rfl) (by decide) (by decide) (Or.inl rfl) (tmX12_post e3) ?_
    refine pr_iload_n dX12_inState_23 rfl ?_
    refine pr_icmp_ne (tgt := 31) dX12_inState_24 rfl rfl (by decide) (fun c_4 => ?_) (fun c_4 => ?_)
    · have h := pm_ng c_4 h
      refine pr_iconst dX12_inState_31 ?_
      refine pr_iadd dX12_inState_32 ?_
      refine pr_istore_n dX12_inState_33 (by decide) rfl ?_
      refine pr_iinc dX12_inState_34 rfl (by decide) rfl ?_
      refine pr_goto (tgt := 4) dX12_inState_37 (by decide) ?_
      refine pr_weak (L2 := [some (pv_r 0), some (pv_i y1), some (pv_i (z2 + 0)), some (pv_i (z3 + 1))]) ⟨Or.inr rfl, Or.inr rfl, Or.inr rfl, Or.inr rfl, trivial⟩ ?_
      exact hc ((z2 + 0), (z3 + 1)) (Option.some.inj h).symm
    · have h := pm_pos c_4 h
      refine pr_iconst dX12_inState_27 ?_
      refine pr_goto (tgt := 32) dX12_inState_28 (by decide) ?_
      refine pr_iadd dX12_inState_32 ?_
      refine pr_istore_n dX12_inState_33 (by decide) rfl ?_
      refine pr_iinc dX12_inState_34 rfl (by decide) rfl ?_
      refine pr_goto (tgt := 4) dX12_inState_37 (by decide) ?_
      refine pr_weak (L2 := [some (pv_r 0), some (pv_i y1), some (pv_i (z2 + 1)), some (pv_i (z3 + 1))]) ⟨Or.inr rfl, Or.inr rfl, Or.inr rfl, Or.inr rfl, trivial⟩ ?_
      exact hc ((z2 + 1), (z3 + 1)) (Option.some.inj h).symm
def fX12_inState (x1 : Int) (σ : pm_M) : Option (Int) :=
  (pm_it (fun a => bdX12_inState_4 x1 σ a.1 a.2) pm_fuel (0, 0)).bind fun v5 => some v5.1
set_option maxHeartbeats 4000000 in
set_option maxRecDepth 100000 in
theorem tmX12_inState {x1 : Int} {σ : pm_M} {ρ : Int} (h : fX12_inState x1 σ = some ρ) : pm_C mX12_inState 1 22 [pv_r 0, pv_i x1] LAYM σ (some (pv_i ρ)) LAYM σ := by
  refine pm_C.of (by decide) rfl (Nat.le_of_ble_eq_true rfl) ?_
  show pm_J mX12_inState 1 22 LAYM (some (pv_i ρ)) LAYM σ 0 [some (pv_r 0), some (pv_i x1), none, none] [] LAYM σ
  unfold fX12_inState at h
  refine pr_iconst dX12_inState_0 ?_
  refine pr_istore_n dX12_inState_1 (by decide) rfl ?_
  refine pr_iconst dX12_inState_2 ?_
  refine pr_istore_n dX12_inState_3 (by decide) rfl ?_
  obtain ⟨v5, e6, h⟩ := pm_bs h
  refine pr_weak (L2 := [some (pv_r 0), some (pv_i x1), some (pv_i 0), some (pv_i 0)]) ⟨Or.inr rfl, Or.inr rfl, Or.inr rfl, Or.inr rfl, trivial⟩ ?_
  refine pm_it_J (α := Int × Int) (β := Int × Int) (f := fun a => bdX12_inState_4 x1 σ a.1 a.2) (P := fun a => pm_J mX12_inState 1 22 LAYM (some (pv_i ρ)) LAYM σ 4 [some (pv_r 0), some (pv_i x1), some (pv_i a.1), some (pv_i a.2)] [] LAYM σ) (Rx := fun a => pm_J mX12_inState 1 22 LAYM (some (pv_i ρ)) LAYM σ 40 [none, none, some (pv_i a.1), none] [] LAYM σ) (tbX12_inState_4 x1 σ) pm_fuel (0, 0) v5 e6 ?_
  show pm_J mX12_inState 1 22 LAYM (some (pv_i ρ)) LAYM σ 40 [none, none, some (pv_i v5.1), none] [] LAYM σ
  refine pr_iload_n dX12_inState_40 rfl ?_
  have h := Option.some.inj h
  subst h
  exact pr_iret dX12_inState_41 rfl
def bdX12_hour_109 (y1 : Int) (y2 : Int) (z3 : Int) (z4 : Int) (σ : pm_M) : Option ((Int × Int × pm_M) ⊕ (Int × Int × pm_M)) :=
  if (wr (σ 25 (Int.toNat 752))) ≤ (wr z4) then (some (.inl (z3, z4, σ))) else ((fX12_post z4 0 σ).bind fun q12 => if (wr q12) = 0 then (if (wr z3) < (wr (σ 0 20)) then ((fX12_put z4 0 1 σ).bind fun q16 => (fX12_put z4 4 (q16 25 (Int.toNat 751)) q16).bind fun q18 => some (.inr ((z3 + 1), (z4 + 1), q18))) else (some (.inr (z3, (z4 + 1), σ)))) else (some (.inr (z3, (z4 + 1), σ))))
set_option maxHeartbeats 4000000 in
set_option maxRecDepth 100000 in
theorem tbX12_hour_109 {lay0 lay' : List pm_S} {r : Option pm_V} {σ' : pm_M} (y1 : Int) (y2 : Int) : ∀ (a : Int × Int × pm_M) (e : (Int × Int × pm_M) ⊕ (Int × Int × pm_M)), (fun a => bdX12_hour_109 y1 y2 a.1 a.2.1 a.2.2) a = some e → (∀ a, e = .inr a → (fun a => pm_J mX12_hour 4 94 lay0 r lay' σ' 109 [some (pv_r 0), some (pv_i y1), some (pv_i y2), some (pv_i a.1), some (pv_i a.2.1), none] [] LAYM a.2.2) a) → (∀ a, e = .inl a → (fun a => pm_J mX12_hour 4 94 lay0 r lay' σ' 175 [some (pv_r 0), some (pv_i y1), some (pv_i y2), none, none, none] [] LAYM a.2.2) a) → (fun a => pm_J mX12_hour 4 94 lay0 r lay' σ' 109 [some (pv_r 0), some (pv_i y1), some (pv_i y2), some (pv_i a.1), some (pv_i a.2.1), none] [] LAYM a.2.2) a := by
  intro a e h hc hx
  obtain ⟨z3, z4, σ⟩ := a
  have h : bdX12_hour_109 y1 y2 z3 z4 σ = some e := h
  unfold bdX12_hour_109 at h
  show pm_J mX12_hour 4 94 lay0 r lay' σ' 109 [some (pv_r 0), some (pv_i y1), some (pv_i y2), some (pv_i z3), some (pv_i z4), none] [] LAYM σ
  refine pr_iload dX12_hour_109 rfl ?_
  refine pr_aload_n dX12_hour_111 rfl ?_
  refine pr_getR dX12_hour_112 lk_X12_86 lm_0 rfl ?_
  refine pr_sipush dX12_hour_115 (by decide) ?_
  refine pr_iald dX12_hour_118 lm_25 (wr_eq (by decide) (by decide)) ⟨by decide, by decide⟩ ?_
  refine pr_icmp_ge (tgt := 175) dX12_hour_119 rfl rfl (by decide) (fun c_11 => ?_) (fun c_11 => ?_)
  · have h := pm_pos c_11 h
    refine pr_weak (L2 := [some (pv_r 0), some (pv_i y1), some (pv_i y2), none, none, none]) ⟨Or.inr rfl, Or.inr rfl, Or.inr rfl, Or.inl rfl, Or.inl rfl, Or.inl rfl, trivial⟩ ?_
    exact hx (z3, z4, σ) (Option.some.inj h).symm
  · have h := pm_ng c_11 h
    refine pr_aload_n dX12_hour_122 rfl ?_
    refine pr_iload dX12_hour_123 rfl ?_
    refine pr_iconst dX12_hour_125 ?_
    obtain ⟨q12, e13, h⟩ := pm_bs h
    refine pr_callV (As := [pv_i z4, pv_i 0]) (S := []) (t := 0) dX12_hour_126 mk_X12_138 lm_0 (ci := 12) (q := (RX12, TX12, 36)) rfl rfl rfl rfl (Nat.le_of_ble_eq_true rfl) (by decide) (by decide) (Or.inl rfl) (tmX12_post e13) ?_
    refine pr_if_ne (tgt := 169) dX12_hour_129 rfl (by decide) (fun c_14 => ?_) (fun c_14 => ?_)
    · have h := pm_ng c_14 h
      refine pr_iinc dX12_hour_169 rfl (by decide) rfl ?_
      refine pr_goto (tgt := 109) dX12_hour_172 (by decide) ?_
      refine pr_weak (L2 := [some (pv_r 0), some (pv_i y1), some (pv_i y2), some (pv_i z3), some (pv_i (z4 + 1)), none]) ⟨Or.inr rfl, Or.inr rfl, Or.inr rfl, Or.inr rfl, Or.inr rfl, Or.inl rfl, trivial⟩ ?_
      exact hc (z3, (z4 + 1), σ) (Option.some.inj h).symm
    · have h := pm_pos c_14 h
      refine pr_iload_n dX12_hour_132 rfl ?_
      refine pr_aload_n dX12_hour_133 rfl ?_
      refine pr_getI dX12_hour_134 lk_X12_55 lm_0 rfl ?_
      refine pr_icmp_lt (tgt := 143) dX12_hour_137 rfl rfl (by decide) (fun c_15 => ?_) (fun c_15 => ?_)
      · have h := pm_pos c_15 h
        refine pr_aload_n dX12_hour_143 rfl ?_
        refine pr_iload dX12_hour_144 rfl ?_
        refine pr_iconst dX12_hour_146 ?_
        refine pr_iconst dX12_hour_147 ?_
        obtain ⟨q16, e17, h⟩ := pm_bs h
        refine pr_callV (As := [pv_i z4, pv_i 0, pv_i 1]) (S := []) (t := 0) dX12_hour_148 mk_X12_144 lm_0 (ci := 12) (q := (RX12, TX12, 36)) rfl rfl rfl rfl (Nat.le_of_ble_eq_true rfl) (by decide) (by decide) (Or.inl rfl) (tmX12_put e17) ?_
        refine pr_aload_n dX12_hour_151 rfl ?_
        refine pr_iload dX12_hour_152 rfl ?_
        refine pr_iconst dX12_hour_154 ?_
        refine pr_aload_n dX12_hour_155 rfl ?_
        refine pr_getR dX12_hour_156 lk_X12_86 lm_0 rfl ?_
        refine pr_sipush dX12_hour_159 (by decide) ?_
        refine pr_iald dX12_hour_162 lm_25 (wr_eq (by decide) (by decide)) ⟨by decide, by decide⟩ ?_
        obtain ⟨q18, e19, h⟩ := pm_bs h
        refine pr_callV (As := [pv_i z4, pv_i 4, pv_i (q16 25 (Int.toNat 751))]) (S := []) (t := 0) dX12_hour_163 mk_X12_144 lm_0 (ci := 12) (q := (RX12, TX12, 36)) rfl rfl rfl rfl (Nat.le_of_ble_eq_true rfl) (by decide) (by decide) (Or.inl rfl) (tmX12_put e19) ?_
        refine pr_iinc dX12_hour_166 rfl (by decide) rfl ?_
        refine pr_iinc dX12_hour_169 rfl (by decide) rfl ?_
        refine pr_goto (tgt := 109) dX12_hour_172 (by decide) ?_
        refine pr_weak (L2 := [some (pv_r 0), some (pv_i y1), some (pv_i y2), some (pv_i (z3 + 1)), some (pv_i (z4 + 1)), none]) ⟨Or.inr rfl, Or.inr rfl, Or.inr rfl, Or.inr rfl, Or.inr rfl, Or.inl rfl, trivial⟩ ?_
        exact hc ((z3 + 1), (z4 + 1), q18) (Option.some.inj h).symm
      · have h := pm_ng c_15 h
        refine pr_goto (tgt := 169) dX12_hour_140 (by decide) ?_
        refine pr_iinc dX12_hour_169 rfl (by decide) rfl ?_
        refine pr_goto (tgt := 109) dX12_hour_172 (by decide) ?_
        refine pr_weak (L2 := [some (pv_r 0), some (pv_i y1), some (pv_i y2), some (pv_i z3), some (pv_i (z4 + 1)), none]) ⟨Or.inr rfl, Or.inr rfl, Or.inr rfl, Or.inr rfl, Or.inr rfl, Or.inl rfl, trivial⟩ ?_
        exact hc (z3, (z4 + 1), σ) (Option.some.inj h).symm
def bdX12_hour_194 (y4 : Int) (z5 : Int) (σ : pm_M) : Option ((Int × pm_M) ⊕ (Int × pm_M)) :=
  if (wr (σ 25 (Int.toNat 752))) ≤ (wr z5) then (some (.inl (z5, σ))) else ((fX12_post z5 0 σ).bind fun q26 => if (wr q26) = 1 then ((fX12_post z5 5 σ).bind fun q29 => (fX12_put z5 5 (q29 + y4) σ).bind fun q31 => (fX12_post z5 5 q31).bind fun q33 => if 40 ≤ (wr q33) then ((fX12_put z5 0 2 q31).bind fun q36 => (fX12_put z5 6 (q36 25 (Int.toNat 751)) q36).bind fun q38 => some (.inr ((z5 + 1), q38))) else (some (.inr ((z5 + 1), q31)))) else (some (.inr ((z5 + 1), σ))))
set_option maxHeartbeats 4000000 in
set_option maxRecDepth 100000 in
theorem tbX12_hour_194 {lay0 lay' : List pm_S} {r : Option pm_V} {σ' : pm_M} (y4 : Int) : ∀ (a : Int × pm_M) (e : (Int × pm_M) ⊕ (Int × pm_M)), (fun a => bdX12_hour_194 y4 a.1 a.2) a = some e → (∀ a, e = .inr a → (fun a => pm_J mX12_hour 4 94 lay0 r lay' σ' 194 [some (pv_r 0), none, none, none, some (pv_i y4), some (pv_i a.1)] [] LAYM a.2) a) → (∀ a, e = .inl a → (fun a => pm_J mX12_hour 4 94 lay0 r lay' σ' 283 [some (pv_r 0), none, none, none, none, none] [] LAYM a.2) a) → (fun a => pm_J mX12_hour 4 94 lay0 r lay' σ' 194 [some (pv_r 0), none, none, none, some (pv_i y4), some (pv_i a.1)] [] LAYM a.2) a := by
  intro a e h hc hx
  obtain ⟨z5, σ⟩ := a
  have h : bdX12_hour_194 y4 z5 σ = some e := h
  unfold bdX12_hour_194 at h
  show pm_J mX12_hour 4 94 lay0 r lay' σ' 194 [some (pv_r 0), none, none, none, some (pv_i y4), some (pv_i z5)] [] LAYM σ
  refine pr_iload dX12_hour_194 rfl ?_
  refine pr_aload_n dX12_hour_196 rfl ?_
  refine pr_getR dX12_hour_197 lk_X12_86 lm_0 rfl ?_
  refine pr_sipush dX12_hour_200 (by decide) ?_
  refine pr_iald dX12_hour_203 lm_25 (wr_eq (by decide) (by decide)) ⟨by decide, by decide⟩ ?_
  refine pr_icmp_ge (tgt := 283) dX12_hour_204 rfl rfl (by decide) (fun c_25 => ?_) (fun c_25 => ?_)
  · have h := pm_pos c_25 h
    refine pr_weak (L2 := [some (pv_r 0), none, none, none, none, none]) ⟨Or.inr rfl, Or.inl rfl, Or.inl rfl, Or.inl rfl, Or.inl rfl, Or.inl rfl, trivial⟩ ?_
    exact hx (z5, σ) (Option.some.inj h).symm
  · have h := pm_ng c_25 h
    refine pr_aload_n dX12_hour_207 rfl ?_
    refine pr_iload dX12_hour_208 rfl ?_
    refine pr_iconst dX12_hour_210 ?_
    obtain ⟨q26, e27, h⟩ := pm_bs h
    refine pr_callV (As := [pv_i z5, pv_i 0]) (S := []) (t := 0) dX12_hour_211 mk_X12_138 lm_0 (ci := 12) (q := (RX12, TX12, 36)) rfl rfl rfl rfl (Nat.le_of_ble_eq_true rfl) (by decide) (by decide) (Or.inl rfl) (tmX12_post e27) ?_
    refine pr_iconst dX12_hour_214 ?_
    refine pr_icmp_eq (tgt := 221) dX12_hour_215 rfl (wr_eq (by decide) (by decide)) (by decide) (fun c_28 => ?_) (fun c_28 => ?_)
    · have h := pm_pos c_28 h
      refine pr_aload_n dX12_hour_221 rfl ?_
      refine pr_iload dX12_hour_222 rfl ?_
      refine pr_iconst dX12_hour_224 ?_
      refine pr_aload_n dX12_hour_225 rfl ?_
      refine pr_iload dX12_hour_226 rfl ?_
      refine pr_iconst dX12_hour_228 ?_
      obtain ⟨q29, e30, h⟩ := pm_bs h
      refine pr_callV (As := [pv_i z5, pv_i 5]) (S := [pv_i 5, pv_i z5, pv_r 0]) (t := 0) dX12_hour_229 mk_X12_138 lm_0 (ci := 12) (q := (RX12, TX12, 36)) rfl rfl rfl rfl (Nat.le_of_ble_eq_true rfl) (by decide) (by decide) (Or.inl rfl) (tmX12_post e30) ?_
      refine pr_iload dX12_hour_232 rfl ?_
      refine pr_iadd dX12_hour_234 ?_
      obtain ⟨q31, e32, h⟩ := pm_bs h
      refine pr_callV (As := [pv_i z5, pv_i 5, pv_i (q29 + y4)]) (S := []) (t := 0) dX12_hour_235 mk_X12_144 lm_0 (ci := 12) (q := (RX12, TX12, 36)) rfl rfl rfl rfl (Nat.le_of_ble_eq_true rfl) (by decide) (by decide) (Or.inl rfl) (tmX12_put e32) ?_
      refine pr_aload_n dX12_hour_238 rfl ?_
      refine pr_iload dX12_hour_239 rfl ?_
      refine pr_iconst dX12_hour_241 ?_
      obtain ⟨q33, e34, h⟩ := pm_bs h
      refine pr_callV (As := [pv_i z5, pv_i 5]) (S := []) (t := 0) dX12_hour_242 mk_X12_138 lm_0 (ci := 12) (q := (RX12, TX12, 36)) rfl rfl rfl rfl (Nat.le_of_ble_eq_true rfl) (by decide) (by decide) (Or.inl rfl) (tmX12_post e34) ?_
      refine pr_bipush dX12_hour_245 (by decide) ?_
      refine pr_icmp_ge (tgt := 253) dX12_hour_247 rfl (wr_eq (by decide) (by decide)) (by decide) (fun c_35 => ?_) (fun c_35 => ?_)
      · have h := pm_pos c_35 h
        refine pr_aload_n dX12_hour_253 rfl ?_
        refine pr_iload dX12_hour_254 rfl ?_
        refine pr_iconst dX12_hour_256 ?_
        refine pr_iconst dX12_hour_257 ?_
        obtain ⟨q36, e37, h⟩ := pm_bs h
        refine pr_callV (As := [pv_i z5, pv_i 0, pv_i 2]) (S := []) (t := 0) dX12_hour_258 mk_X12_144 lm_0 (ci := 12) (q := (RX12, TX12, 36)) rfl rfl rfl rfl (Nat.le_of_ble_eq_true rfl) (by decide) (by decide) (Or.inl rfl) (tmX12_put e37) ?_
        refine pr_aload_n dX12_hour_261 rfl ?_
        refine pr_iload dX12_hour_262 rfl ?_
        refine pr_bipush dX12_hour_264 (by decide) ?_
        refine pr_aload_n dX12_hour_266 rfl ?_
        refine pr_getR dX12_hour_267 lk_X12_86 lm_0 rfl ?_
        refine pr_sipush dX12_hour_270 (by decide) ?_
        refine pr_iald dX12_hour_273 lm_25 (wr_eq (by decide) (by decide)) ⟨by decide, by decide⟩ ?_
        obtain ⟨q38, e39, h⟩ := pm_bs h
        refine pr_callV (As := [pv_i z5, pv_i 6, pv_i (q36 25 (Int.toNat 751))]) (S := []) (t := 0) dX12_hour_274 mk_X12_144 lm_0 (ci := 12) (q := (RX12, TX12, 36)) rfl rfl rfl rfl (Nat.le_of_ble_eq_true rfl) (by decide) (by decide) (Or.inl rfl) (tmX12_put e39) ?_
        refine pr_iinc dX12_hour_277 rfl (by decide) rfl ?_
        refine pr_goto (tgt := 194) dX12_hour_280 (by decide) ?_
        refine pr_weak (L2 := [some (pv_r 0), none, none, none, some (pv_i y4), some (pv_i (z5 + 1))]) ⟨Or.inr rfl, Or.inl rfl, Or.inl rfl, Or.inl rfl, Or.inr rfl, Or.inr rfl, trivial⟩ ?_
        exact hc ((z5 + 1), q38) (Option.some.inj h).symm
      · have h := pm_ng c_35 h
        refine pr_goto (tgt := 277) dX12_hour_250 (by decide) ?_
        refine pr_iinc dX12_hour_277 rfl (by decide) rfl ?_
        refine pr_goto (tgt := 194) dX12_hour_280 (by decide) ?_
        refine pr_weak (L2 := [some (pv_r 0), none, none, none, some (pv_i y4), some (pv_i (z5 + 1))]) ⟨Or.inr rfl, Or.inl rfl, Or.inl rfl, Or.inl rfl, Or.inr rfl, Or.inr rfl, trivial⟩ ?_
        exact hc ((z5 + 1), q31) (Option.some.inj h).symm
    · have h := pm_ng c_28 h
      refine pr_goto (tgt := 277) dX12_hour_218 (by decide) ?_
      refine pr_iinc dX12_hour_277 rfl (by decide) rfl ?_
      refine pr_goto (tgt := 194) dX12_hour_280 (by decide) ?_
      refine pr_weak (L2 := [some (pv_r 0), none, none, none, some (pv_i y4), some (pv_i (z5 + 1))]) ⟨Or.inr rfl, Or.inl rfl, Or.inl rfl, Or.inl rfl, Or.inr rfl, Or.inr rfl, trivial⟩ ?_
      exact hc ((z5 + 1), σ) (Option.some.inj h).symm
def bdX12_hour_286 (z5 : Int) (σ : pm_M) : Option ((Int × pm_M) ⊕ (Int × pm_M)) :=
  if (wr (σ 0 15)) ≤ (wr z5) then (some (.inl (z5, σ))) else ((fX12_age z5 σ).bind fun q43 => pm_g (0 ≤ (wr z5) ∧ (wr z5) < 40) (pm_g (0 ≤ (wr (σ 9 (Int.toNat (wr z5)))) ∧ (wr (σ 9 (Int.toNat (wr z5)))) < 9) (pm_g (0 ≤ (wr z5) ∧ (wr z5) < 40) (pm_g (0 ≤ (wr (σ 9 (Int.toNat (wr z5)))) ∧ (wr (σ 9 (Int.toNat (wr z5)))) < 9) (if (wr ((σ 3 (Int.toNat (wr (σ 9 (Int.toNat (wr z5)))))) + (σ 4 (Int.toNat (wr (σ 9 (Int.toNat (wr z5)))))))) < (wr q43) then (pm_g (0 ≤ (wr (40 + z5)) ∧ (wr (40 + z5)) < 755) (pm_g (0 ≤ (wr (0 + z5)) ∧ (wr (0 + z5)) < 755) (pm_g (0 ≤ (wr (40 + z5)) ∧ (wr (40 + z5)) < 755) (pm_g (0 ≤ (wr (0 + z5)) ∧ (wr (0 + z5)) < 755) (pm_g (0 ≤ (wr (0 + z5)) ∧ (wr (0 + z5)) < 755) (some (.inr ((z5 + 1), (pm_up (pm_up (pm_up σ 25 (Int.toNat (wr (40 + z5))) ((σ 25 (Int.toNat (wr (40 + z5)))) + (σ 25 (Int.toNat (wr (0 + z5)))))) 25 (Int.toNat 754) (((pm_up σ 25 (Int.toNat (wr (40 + z5))) ((σ 25 (Int.toNat (wr (40 + z5)))) + (σ 25 (Int.toNat (wr (0 + z5)))))) 25 (Int.toNat 754)) + ((pm_up σ 25 (Int.toNat (wr (40 + z5))) ((σ 25 (Int.toNat (wr (40 + z5)))) + (σ 25 (Int.toNat (wr (0 + z5)))))) 25 (Int.toNat (wr (0 + z5)))))) 25 (Int.toNat (wr (0 + z5))) 0))))))))) else (some (.inr ((z5 + 1), σ))))))))
set_option maxHeartbeats 4000000 in
set_option maxRecDepth 100000 in
theorem tbX12_hour_286 {lay0 lay' : List pm_S} {r : Option pm_V} {σ' : pm_M} : ∀ (a : Int × pm_M) (e : (Int × pm_M) ⊕ (Int × pm_M)), (fun a => bdX12_hour_286 a.1 a.2) a = some e → (∀ a, e = .inr a → (fun a => pm_J mX12_hour 4 94 lay0 r lay' σ' 286 [some (pv_r 0), none, none, none, none, some (pv_i a.1)] [] LAYM a.2) a) → (∀ a, e = .inl a → (fun a => pm_J mX12_hour 4 94 lay0 r lay' σ' 390 [none, none, none, none, none, none] [] LAYM a.2) a) → (fun a => pm_J mX12_hour 4 94 lay0 r lay' σ' 286 [some (pv_r 0), none, none, none, none, some (pv_i a.1)] [] LAYM a.2) a := by
  intro a e h hc hx
  obtain ⟨z5, σ⟩ := a
  have h : bdX12_hour_286 z5 σ = some e := h
  unfold bdX12_hour_286 at h
  show pm_J mX12_hour 4 94 lay0 r lay' σ' 286 [some (pv_r 0), none, none, none, none, some (pv_i z5)] [] LAYM σ
  refine pr_iload dX12_hour_286 rfl ?_
  refine pr_aload_n dX12_hour_288 rfl ?_
  refine pr_getI dX12_hour_289 lk_X12_115 lm_0 rfl ?_
  refine pr_icmp_ge (tgt := 390) dX12_hour_292 rfl rfl (by decide) (fun c_42 => ?_) (fun c_42 => ?_)
  · have h := pm_pos c_42 h
    refine pr_weak (L2 := [none, none, none, none, none, none]) ⟨Or.inl rfl, Or.inl rfl, Or.inl rfl, Or.inl rfl, Or.inl rfl, Or.inl rfl, trivial⟩ ?_
    exact hx (z5, σ) (Option.some.inj h).symm
  · have h := pm_ng c_42 h
    refine pr_aload_n dX12_hour_295 rfl ?_
    refine pr_iload dX12_hour_296 rfl ?_
    obtain ⟨q43, e44, h⟩ := pm_bs h
    refine pr_callV (As := [pv_i z5]) (S := []) (t := 0) dX12_hour_298 mk_X12_118 lm_0 (ci := 12) (q := (RX12, TX12, 36)) rfl rfl rfl rfl (Nat.le_of_ble_eq_true rfl) (by decide) (by decide) (Or.inl rfl) (tmX12_age e44) ?_
    refine pr_aload_n dX12_hour_301 rfl ?_
    refine pr_getR dX12_hour_302 lk_X12_16 lm_0 rfl ?_
    refine pr_aload_n dX12_hour_305 rfl ?_
    refine pr_getR dX12_hour_306 lk_X12_34 lm_0 rfl ?_
    refine pr_iload dX12_hour_309 rfl ?_
    obtain ⟨g_45, h⟩ := pm_gs h
    refine pr_iald dX12_hour_311 lm_9 rfl g_45 ?_
    obtain ⟨g_46, h⟩ := pm_gs h
    refine pr_iald dX12_hour_312 lm_3 rfl g_46 ?_
    refine pr_aload_n dX12_hour_313 rfl ?_
    refine pr_getR dX12_hour_314 lk_X12_19 lm_0 rfl ?_
    refine pr_aload_n dX12_hour_317 rfl ?_
    refine pr_getR dX12_hour_318 lk_X12_34 lm_0 rfl ?_
    refine pr_iload dX12_hour_321 rfl ?_
    obtain ⟨g_47, h⟩ := pm_gs h
    refine pr_iald dX12_hour_323 lm_9 rfl g_47 ?_
    obtain ⟨g_48, h⟩ := pm_gs h
    refine pr_iald dX12_hour_324 lm_4 rfl g_48 ?_
    refine pr_iadd dX12_hour_325 ?_
    refine pr_icmp_gt (tgt := 332) dX12_hour_326 rfl rfl (by decide) (fun c_49 => ?_) (fun c_49 => ?_)
    · have h := pm_pos c_49 h
      refine pr_aload_n dX12_hour_332 rfl ?_
      refine pr_getR dX12_hour_333 lk_X12_86 lm_0 rfl ?_
      refine pr_bipush dX12_hour_336 (by decide) ?_
      refine pr_iload dX12_hour_338 rfl ?_
      refine pr_iadd dX12_hour_340 ?_
      refine pr_dup2 dX12_hour_341 rfl rfl ?_
      obtain ⟨g_50, h⟩ := pm_gs h
      refine pr_iald dX12_hour_342 lm_25 rfl g_50 ?_
      refine pr_aload_n dX12_hour_343 rfl ?_
      refine pr_getR dX12_hour_344 lk_X12_86 lm_0 rfl ?_
      refine pr_iconst dX12_hour_347 ?_
      refine pr_iload dX12_hour_348 rfl ?_
      refine pr_iadd dX12_hour_350 ?_
      obtain ⟨g_51, h⟩ := pm_gs h
      refine pr_iald dX12_hour_351 lm_25 rfl g_51 ?_
      refine pr_iadd dX12_hour_352 ?_
      obtain ⟨g_52, h⟩ := pm_gs h
      refine pr_iast dX12_hour_353 lm_25 rfl g_52 ?_
      refine pr_aload_n dX12_hour_354 rfl ?_
      refine pr_getR dX12_hour_355 lk_X12_86 lm_0 rfl ?_
      refine pr_sipush dX12_hour_358 (by decide) ?_
      refine pr_dup2 dX12_hour_361 rfl rfl ?_
      refine pr_iald dX12_hour_362 lm_25 (wr_eq (by decide) (by decide)) ⟨by decide, by decide⟩ ?_
      refine pr_aload_n dX12_hour_363 rfl ?_
      refine pr_getR dX12_hour_364 lk_X12_86 lm_0 rfl ?_
      refine pr_iconst dX12_hour_367 ?_
      refine pr_iload dX12_hour_368 rfl ?_
      refine pr_iadd dX12_hour_370 ?_
      obtain ⟨g_53, h⟩ := pm_gs h
      refine pr_iald dX12_hour_371 lm_25 rfl g_53 ?_
      refine pr_iadd dX12_hour_372 ?_
      refine pr_iast dX12_hour_373 lm_25 (wr_eq (by decide) (by decide)) ⟨by decide, by decide⟩ ?_
      refine pr_aload_n dX12_hour_374 rfl ?_
      refine pr_getR dX12_hour_375 lk_X12_86 lm_0 rfl ?_
      refine pr_iconst dX12_hour_378 ?_
      refine pr_iload dX12_hour_379 rfl ?_
      refine pr_iadd dX12_hour_381 ?_
      refine pr_iconst dX12_hour_382 ?_
      obtain ⟨g_54, h⟩ := pm_gs h
      refine pr_iast dX12_hour_383 lm_25 rfl g_54 ?_
      refine pr_iinc dX12_hour_384 rfl (by decide) rfl ?_
      refine pr_goto (tgt := 286) dX12_hour_387 (by decide) ?_
      refine pr_weak (L2 := [some (pv_r 0), none, none, none, none, some (pv_i (z5 + 1))]) ⟨Or.inr rfl, Or.inl rfl, Or.inl rfl, Or.inl rfl, Or.inl rfl, Or.inr rfl, trivial⟩ ?_
      exact hc ((z5 + 1), (pm_up (pm_up (pm_up σ 25 (Int.toNat (wr (40 + z5))) ((σ 25 (Int.toNat (wr (40 + z5)))) + (σ 25 (Int.toNat (wr (0 + z5)))))) 25 (Int.toNat 754) (((pm_up σ 25 (Int.toNat (wr (40 + z5))) ((σ 25 (Int.toNat (wr (40 + z5)))) + (σ 25 (Int.toNat (wr (0 + z5)))))) 25 (Int.toNat 754)) + ((pm_up σ 25 (Int.toNat (wr (40 + z5))) ((σ 25 (Int.toNat (wr (40 + z5)))) + (σ 25 (Int.toNat (wr (0 + z5)))))) 25 (Int.toNat (wr (0 + z5)))))) 25 (Int.toNat (wr (0 + z5))) 0)) (Option.some.inj h).symm
    · have h := pm_ng c_49 h
      refine pr_goto (tgt := 384) dX12_hour_329 (by decide) ?_
      refine pr_iinc dX12_hour_384 rfl (by decide) rfl ?_
      refine pr_goto (tgt := 286) dX12_hour_387 (by decide) ?_
      refine pr_weak (L2 := [some (pv_r 0), none, none, none, none, some (pv_i (z5 + 1))]) ⟨Or.inr rfl, Or.inl rfl, Or.inl rfl, Or.inl rfl, Or.inl rfl, Or.inr rfl, trivial⟩ ?_
      exact hc ((z5 + 1), σ) (Option.some.inj h).symm
def jnX12_hour_189 (u0 : Int) (σ : pm_M) : Option (pm_M) :=
  (pm_it (fun a => bdX12_hour_194 u0 a.1 a.2) pm_fuel (0, σ)).bind fun v40 => (pm_it (fun a => bdX12_hour_286 a.1 a.2) pm_fuel (0, v40.2)).bind fun v55 => some v55.2
set_option maxHeartbeats 4000000 in
set_option maxRecDepth 100000 in
theorem tjX12_hour_189 {lay0 : List pm_S} {u0 : Int} {σ : pm_M} {ρ : pm_M} (h : jnX12_hour_189 u0 σ = some ρ) : pm_J mX12_hour 4 94 lay0 none LAYM ρ 189 [some (pv_r 0), none, none, none, none, none] [pv_i u0] LAYM σ := by
  unfold jnX12_hour_189 at h
  refine pr_istore dX12_hour_189 (by decide) rfl ?_
  refine pr_iconst dX12_hour_191 ?_
  refine pr_istore dX12_hour_192 (by decide) rfl ?_
  obtain ⟨v40, e41, h⟩ := pm_bs h
  refine pr_weak (L2 := [some (pv_r 0), none, none, none, some (pv_i u0), some (pv_i 0)]) ⟨Or.inr rfl, Or.inl rfl, Or.inl rfl, Or.inl rfl, Or.inr rfl, Or.inr rfl, trivial⟩ ?_
  refine pm_it_J (α := Int × pm_M) (β := Int × pm_M) (f := fun a => bdX12_hour_194 u0 a.1 a.2) (P := fun a => pm_J mX12_hour 4 94 lay0 none LAYM ρ 194 [some (pv_r 0), none, none, none, some (pv_i u0), some (pv_i a.1)] [] LAYM a.2) (Rx := fun a => pm_J mX12_hour 4 94 lay0 none LAYM ρ 283 [some (pv_r 0), none, none, none, none, none] [] LAYM a.2) (tbX12_hour_194 u0) pm_fuel (0, σ) v40 e41 ?_
  show pm_J mX12_hour 4 94 lay0 none LAYM ρ 283 [some (pv_r 0), none, none, none, none, none] [] LAYM v40.2
  refine pr_iconst dX12_hour_283 ?_
  refine pr_istore dX12_hour_284 (by decide) rfl ?_
  obtain ⟨v55, e56, h⟩ := pm_bs h
  refine pr_weak (L2 := [some (pv_r 0), none, none, none, none, some (pv_i 0)]) ⟨Or.inr rfl, Or.inl rfl, Or.inl rfl, Or.inl rfl, Or.inl rfl, Or.inr rfl, trivial⟩ ?_
  refine pm_it_J (α := Int × pm_M) (β := Int × pm_M) (f := fun a => bdX12_hour_286 a.1 a.2) (P := fun a => pm_J mX12_hour 4 94 lay0 none LAYM ρ 286 [some (pv_r 0), none, none, none, none, some (pv_i a.1)] [] LAYM a.2) (Rx := fun a => pm_J mX12_hour 4 94 lay0 none LAYM ρ 390 [none, none, none, none, none, none] [] LAYM a.2) (tbX12_hour_286) pm_fuel (0, v40.2) v55 e56 ?_
  show pm_J mX12_hour 4 94 lay0 none LAYM ρ 390 [none, none, none, none, none, none] [] LAYM v55.2
  have h := Option.some.inj h
  subst h
  exact pr_vret dX12_hour_390 rfl
def jnX12_hour_100 (w1 : Int) (w2 : Int) (σ : pm_M) : Option (pm_M) :=
  (fX12_inState 1 σ).bind fun q9 => (pm_it (fun a => bdX12_hour_109 w1 w2 a.1 a.2.1 a.2.2) pm_fuel (q9, 0, σ)).bind fun v20 => if (wr w2) = 0 then ((fX12_reckoned w1 1 v20.2.2).bind fun q23 => jnX12_hour_189 q23 v20.2.2) else (jnX12_hour_189 0 v20.2.2)
set_option maxHeartbeats 4000000 in
set_option maxRecDepth 100000 in
theorem tjX12_hour_100 {lay0 : List pm_S} {w1 : Int} {w2 : Int} {σ : pm_M} {ρ : pm_M} (h : jnX12_hour_100 w1 w2 σ = some ρ) : pm_J mX12_hour 4 94 lay0 none LAYM ρ 100 [some (pv_r 0), some (pv_i w1), some (pv_i w2), none, none, none] [] LAYM σ := by
  unfold jnX12_hour_100 at h
  refine pr_aload_n dX12_hour_100 rfl ?_
  refine pr_iconst dX12_hour_101 ?_
  obtain ⟨q9, e10, h⟩ := pm_bs h
  refine pr_callV (As := [pv_i 1]) (S := []) (t := 0) dX12_hour_102 mk_X12_193 lm_0 (ci := 12) (q := (RX12, TX12, 36)) rfl rfl rfl rfl (Nat.le_of_ble_eq_true rfl) (by decide) (by decide) (Or.inl rfl) (tmX12_inState e10) ?_
  refine pr_istore_n dX12_hour_105 (by decide) rfl ?_
  refine pr_iconst dX12_hour_106 ?_
  refine pr_istore dX12_hour_107 (by decide) rfl ?_
  obtain ⟨v20, e21, h⟩ := pm_bs h
  refine pr_weak (L2 := [some (pv_r 0), some (pv_i w1), some (pv_i w2), some (pv_i q9), some (pv_i 0), none]) ⟨Or.inr rfl, Or.inr rfl, Or.inr rfl, Or.inr rfl, Or.inr rfl, Or.inl rfl, trivial⟩ ?_
  refine pm_it_J (α := Int × Int × pm_M) (β := Int × Int × pm_M) (f := fun a => bdX12_hour_109 w1 w2 a.1 a.2.1 a.2.2) (P := fun a => pm_J mX12_hour 4 94 lay0 none LAYM ρ 109 [some (pv_r 0), some (pv_i w1), some (pv_i w2), some (pv_i a.1), some (pv_i a.2.1), none] [] LAYM a.2.2) (Rx := fun a => pm_J mX12_hour 4 94 lay0 none LAYM ρ 175 [some (pv_r 0), some (pv_i w1), some (pv_i w2), none, none, none] [] LAYM a.2.2) (tbX12_hour_109 w1 w2) pm_fuel (q9, 0, σ) v20 e21 ?_
  show pm_J mX12_hour 4 94 lay0 none LAYM ρ 175 [some (pv_r 0), some (pv_i w1), some (pv_i w2), none, none, none] [] LAYM v20.2.2
  refine pr_iload_n dX12_hour_175 rfl ?_
  refine pr_if_eq (tgt := 183) dX12_hour_176 rfl (by decide) (fun c_22 => ?_) (fun c_22 => ?_)
  · have h := pm_pos c_22 h
    refine pr_aload_n dX12_hour_183 rfl ?_
    refine pr_iload_n dX12_hour_184 rfl ?_
    refine pr_iconst dX12_hour_185 ?_
    obtain ⟨q23, e24, h⟩ := pm_bs h
    refine pr_callV (As := [pv_i w1, pv_i 1]) (S := []) (t := 0) dX12_hour_186 mk_X12_107 lm_0 (ci := 12) (q := (RX12, TX12, 36)) rfl rfl rfl rfl (Nat.le_of_ble_eq_true rfl) (by decide) (by decide) (Or.inl rfl) (tmX12_reckoned e24) ?_
    refine pr_weak (L2 := [some (pv_r 0), none, none, none, none, none]) ⟨Or.inr rfl, Or.inl rfl, Or.inl rfl, Or.inl rfl, Or.inl rfl, Or.inl rfl, trivial⟩ ?_
    exact tjX12_hour_189 h
  · have h := pm_ng c_22 h
    refine pr_iconst dX12_hour_179 ?_
    refine pr_goto (tgt := 189) dX12_hour_180 (by decide) ?_
    refine pr_weak (L2 := [some (pv_r 0), none, none, none, none, none]) ⟨Or.inr rfl, Or.inl rfl, Or.inl rfl, Or.inl rfl, Or.inl rfl, Or.inl rfl, trivial⟩ ?_
    exact tjX12_hour_189 h
def bdX12_hour_46 (y1 : Int) (y2 : Int) (z3 : Int) (σ : pm_M) : Option ((Int × pm_M) ⊕ (Int × pm_M)) :=
  if 3 ≤ (wr z3) then (some (.inl (z3, σ))) else (pm_g (0 ≤ (wr ((105 + (2 * z3)) + 1)) ∧ (wr ((105 + (2 * z3)) + 1)) < 755) (pm_g (0 ≤ (wr z3) ∧ (wr z3) < 3) (if 0 ≤ (wr (σ 14 (Int.toNat (wr z3)))) then (pm_g (0 ≤ (wr ((105 + (2 * z3)) + 1)) ∧ (wr ((105 + (2 * z3)) + 1)) < 755) (some (.inr ((z3 + 1), (pm_up σ 25 (Int.toNat (wr ((105 + (2 * z3)) + 1))) ((σ 25 (Int.toNat (wr ((105 + (2 * z3)) + 1)))) + 1)))))) else (pm_g (0 ≤ (wr ((105 + (2 * z3)) + 1)) ∧ (wr ((105 + (2 * z3)) + 1)) < 755) (some (.inr ((z3 + 1), (pm_up σ 25 (Int.toNat (wr ((105 + (2 * z3)) + 1))) ((σ 25 (Int.toNat (wr ((105 + (2 * z3)) + 1)))) + 0)))))))))
set_option maxHeartbeats 4000000 in
set_option maxRecDepth 100000 in
theorem tbX12_hour_46 {lay0 lay' : List pm_S} {r : Option pm_V} {σ' : pm_M} (y1 : Int) (y2 : Int) : ∀ (a : Int × pm_M) (e : (Int × pm_M) ⊕ (Int × pm_M)), (fun a => bdX12_hour_46 y1 y2 a.1 a.2) a = some e → (∀ a, e = .inr a → (fun a => pm_J mX12_hour 4 94 lay0 r lay' σ' 46 [some (pv_r 0), some (pv_i y1), some (pv_i y2), some (pv_i a.1), none, none] [] LAYM a.2) a) → (∀ a, e = .inl a → (fun a => pm_J mX12_hour 4 94 lay0 r lay' σ' 87 [some (pv_r 0), some (pv_i y1), some (pv_i y2), none, none, none] [] LAYM a.2) a) → (fun a => pm_J mX12_hour 4 94 lay0 r lay' σ' 46 [some (pv_r 0), some (pv_i y1), some (pv_i y2), some (pv_i a.1), none, none] [] LAYM a.2) a := by
  intro a e h hc hx
  obtain ⟨z3, σ⟩ := a
  have h : bdX12_hour_46 y1 y2 z3 σ = some e := h
  unfold bdX12_hour_46 at h
  show pm_J mX12_hour 4 94 lay0 r lay' σ' 46 [some (pv_r 0), some (pv_i y1), some (pv_i y2), some (pv_i z3), none, none] [] LAYM σ
  refine pr_iload_n dX12_hour_46 rfl ?_
  refine pr_iconst dX12_hour_47 ?_
  refine pr_icmp_ge (tgt := 87) dX12_hour_48 rfl (wr_eq (by decide) (by decide)) (by decide) (fun c_57 => ?_) (fun c_57 => ?_)
  · have h := pm_pos c_57 h
    refine pr_weak (L2 := [some (pv_r 0), some (pv_i y1), some (pv_i y2), none, none, none]) ⟨Or.inr rfl, Or.inr rfl, Or.inr rfl, Or.inl rfl, Or.inl rfl, Or.inl rfl, trivial⟩ ?_
    exact hx (z3, σ) (Option.some.inj h).symm
  · have h := pm_ng c_57 h
    refine pr_aload_n dX12_hour_51 rfl ?_
    refine pr_getR dX12_hour_52 lk_X12_86 lm_0 rfl ?_
    refine pr_bipush dX12_hour_55 (by decide) ?_
    refine pr_iconst dX12_hour_57 ?_
    refine pr_iload_n dX12_hour_58 rfl ?_
    refine pr_imul dX12_hour_59 ?_
    refine pr_iadd dX12_hour_60 ?_
    refine pr_iconst dX12_hour_61 ?_
    refine pr_iadd dX12_hour_62 ?_
    refine pr_dup2 dX12_hour_63 rfl rfl ?_
    obtain ⟨g_58, h⟩ := pm_gs h
    refine pr_iald dX12_hour_64 lm_25 rfl g_58 ?_
    refine pr_aload_n dX12_hour_65 rfl ?_
    refine pr_getR dX12_hour_66 lk_X12_49 lm_0 rfl ?_
    refine pr_iload_n dX12_hour_69 rfl ?_
    obtain ⟨g_59, h⟩ := pm_gs h
    refine pr_iald dX12_hour_70 lm_14 rfl g_59 ?_
    refine pr_if_ge (tgt := 78) dX12_hour_71 rfl (by decide) (fun c_60 => ?_) (fun c_60 => ?_)
    · have h := pm_pos c_60 h
      refine pr_iconst dX12_hour_78 ?_
      refine pr_iadd dX12_hour_79 ?_
      obtain ⟨g_61, h⟩ := pm_gs h
      refine pr_iast dX12_hour_80 lm_25 rfl g_61 ?_
      refine pr_iinc dX12_hour_81 rfl (by decide) rfl ?_
      refine pr_goto (tgt := 46) dX12_hour_84 (by decide) ?_
      refine pr_weak (L2 := [some (pv_r 0), some (pv_i y1), some (pv_i y2), some (pv_i (z3 + 1)), none, none]) ⟨Or.inr rfl, Or.inr rfl, Or.inr rfl, Or.inr rfl, Or.inl rfl, Or.inl rfl, trivial⟩ ?_
      exact hc ((z3 + 1), (pm_up σ 25 (Int.toNat (wr ((105 + (2 * z3)) + 1))) ((σ 25 (Int.toNat (wr ((105 + (2 * z3)) + 1)))) + 1))) (Option.some.inj h).symm
    · have h := pm_ng c_60 h
      refine pr_iconst dX12_hour_74 ?_
      refine pr_goto (tgt := 79) dX12_hour_75 (by decide) ?_
      refine pr_iadd dX12_hour_79 ?_
      obtain ⟨g_62, h⟩ := pm_gs h
      refine pr_iast dX12_hour_80 lm_25 rfl g_62 ?_
      refine pr_iinc dX12_hour_81 rfl (by decide) rfl ?_
      refine pr_goto (tgt := 46) dX12_hour_84 (by decide) ?_
      refine pr_weak (L2 := [some (pv_r 0), some (pv_i y1), some (pv_i y2), some (pv_i (z3 + 1)), none, none]) ⟨Or.inr rfl, Or.inr rfl, Or.inr rfl, Or.inr rfl, Or.inl rfl, Or.inl rfl, trivial⟩ ?_
      exact hc ((z3 + 1), (pm_up σ 25 (Int.toNat (wr ((105 + (2 * z3)) + 1))) ((σ 25 (Int.toNat (wr ((105 + (2 * z3)) + 1)))) + 0))) (Option.some.inj h).symm
def jnX12_hour_39 (w1 : Int) (u0 : Int) (σ : pm_M) : Option (pm_M) :=
  if (wr u0) = 0 then ((fX12_reckoned w1 0 σ).bind fun q5 => (fX12_works q5 σ).bind fun q7 => jnX12_hour_100 w1 u0 q7) else ((pm_it (fun a => bdX12_hour_46 w1 u0 a.1 a.2) pm_fuel (0, σ)).bind fun v63 => jnX12_hour_100 w1 u0 v63.2)
set_option maxHeartbeats 4000000 in
set_option maxRecDepth 100000 in
theorem tjX12_hour_39 {lay0 : List pm_S} {w1 : Int} {u0 : Int} {σ : pm_M} {ρ : pm_M} (h : jnX12_hour_39 w1 u0 σ = some ρ) : pm_J mX12_hour 4 94 lay0 none LAYM ρ 39 [some (pv_r 0), some (pv_i w1), none, none, none, none] [pv_i u0] LAYM σ := by
  unfold jnX12_hour_39 at h
  refine pr_istore_n dX12_hour_39 (by decide) rfl ?_
  refine pr_iload_n dX12_hour_40 rfl ?_
  refine pr_if_eq (tgt := 90) dX12_hour_41 rfl (by decide) (fun c_4 => ?_) (fun c_4 => ?_)
  · have h := pm_pos c_4 h
    refine pr_aload_n dX12_hour_90 rfl ?_
    refine pr_aload_n dX12_hour_91 rfl ?_
    refine pr_iload_n dX12_hour_92 rfl ?_
    refine pr_iconst dX12_hour_93 ?_
    obtain ⟨q5, e6, h⟩ := pm_bs h
    refine pr_callV (As := [pv_i w1, pv_i 0]) (S := [pv_r 0]) (t := 0) dX12_hour_94 mk_X12_107 lm_0 (ci := 12) (q := (RX12, TX12, 36)) rfl rfl rfl rfl (Nat.le_of_ble_eq_true rfl) (by decide) (by decide) (Or.inl rfl) (tmX12_reckoned e6) ?_
    obtain ⟨q7, e8, h⟩ := pm_bs h
    refine pr_callV (As := [pv_i q5]) (S := []) (t := 0) dX12_hour_97 mk_X12_190 lm_0 (ci := 12) (q := (RX12, TX12, 36)) rfl rfl rfl rfl (Nat.le_of_ble_eq_true rfl) (by decide) (by decide) (Or.inl rfl) (tmX12_works e8) ?_
    refine pr_weak (L2 := [some (pv_r 0), some (pv_i w1), some (pv_i u0), none, none, none]) ⟨Or.inr rfl, Or.inr rfl, Or.inr rfl, Or.inl rfl, Or.inl rfl, Or.inl rfl, trivial⟩ ?_
    exact tjX12_hour_100 h
  · have h := pm_ng c_4 h
    refine pr_iconst dX12_hour_44 ?_
    refine pr_istore_n dX12_hour_45 (by decide) rfl ?_
    obtain ⟨v63, e64, h⟩ := pm_bs h
    refine pr_weak (L2 := [some (pv_r 0), some (pv_i w1), some (pv_i u0), some (pv_i 0), none, none]) ⟨Or.inr rfl, Or.inr rfl, Or.inr rfl, Or.inr rfl, Or.inl rfl, Or.inl rfl, trivial⟩ ?_
    refine pm_it_J (α := Int × pm_M) (β := Int × pm_M) (f := fun a => bdX12_hour_46 w1 u0 a.1 a.2) (P := fun a => pm_J mX12_hour 4 94 lay0 none LAYM ρ 46 [some (pv_r 0), some (pv_i w1), some (pv_i u0), some (pv_i a.1), none, none] [] LAYM a.2) (Rx := fun a => pm_J mX12_hour 4 94 lay0 none LAYM ρ 87 [some (pv_r 0), some (pv_i w1), some (pv_i u0), none, none, none] [] LAYM a.2) (tbX12_hour_46 w1 u0) pm_fuel (0, σ) v63 e64 ?_
    show pm_J mX12_hour 4 94 lay0 none LAYM ρ 87 [some (pv_r 0), some (pv_i w1), some (pv_i u0), none, none, none] [] LAYM v63.2
    refine pr_goto (tgt := 100) dX12_hour_87 (by decide) ?_
    refine pr_weak (L2 := [some (pv_r 0), some (pv_i w1), some (pv_i u0), none, none, none]) ⟨Or.inr rfl, Or.inr rfl, Or.inr rfl, Or.inl rfl, Or.inl rfl, Or.inl rfl, trivial⟩ ?_
    exact tjX12_hour_100 h
def fX12_hour (σ : pm_M) : Option (pm_M) :=
  (fX12_reckoned (Int.tdiv (wr (σ 25 (Int.toNat 751))) 24) 2 (pm_up σ 25 (Int.toNat 751) ((σ 25 (Int.toNat 751)) + 1))).bind fun q1 => if (wr q1) = 1 then (jnX12_hour_39 (Int.tdiv (wr (σ 25 (Int.toNat 751))) 24) 1 (pm_up σ 25 (Int.toNat 751) ((σ 25 (Int.toNat 751)) + 1))) else (jnX12_hour_39 (Int.tdiv (wr (σ 25 (Int.toNat 751))) 24) 0 (pm_up σ 25 (Int.toNat 751) ((σ 25 (Int.toNat 751)) + 1)))
set_option maxHeartbeats 4000000 in
set_option maxRecDepth 100000 in
theorem tmX12_hour {σ : pm_M} {ρ : pm_M} (h : fX12_hour σ = some ρ) : pm_C mX12_hour 4 94 [pv_r 0] LAYM σ none LAYM ρ := by
  refine pm_C.of (by decide) rfl (Nat.le_of_ble_eq_true rfl) ?_
  show pm_J mX12_hour 4 94 LAYM none LAYM ρ 0 [some (pv_r 0), none, none, none, none, none] [] LAYM σ
  unfold fX12_hour at h
  refine pr_aload_n dX12_hour_0 rfl ?_
  refine pr_getR dX12_hour_1 lk_X12_86 lm_0 rfl ?_
  refine pr_sipush dX12_hour_4 (by decide) ?_
  refine pr_iald dX12_hour_7 lm_25 (wr_eq (by decide) (by decide)) ⟨by decide, by decide⟩ ?_
  refine pr_bipush dX12_hour_8 (by decide) ?_
  refine pr_idiv dX12_hour_10 rfl (wr_eq (by decide) (by decide)) (by decide) ?_
  refine pr_istore_n dX12_hour_11 (by decide) rfl ?_
  refine pr_aload_n dX12_hour_12 rfl ?_
  refine pr_getR dX12_hour_13 lk_X12_86 lm_0 rfl ?_
  refine pr_sipush dX12_hour_16 (by decide) ?_
  refine pr_dup2 dX12_hour_19 rfl rfl ?_
  refine pr_iald dX12_hour_20 lm_25 (wr_eq (by decide) (by decide)) ⟨by decide, by decide⟩ ?_
  refine pr_iconst dX12_hour_21 ?_
  refine pr_iadd dX12_hour_22 ?_
  refine pr_iast dX12_hour_23 lm_25 (wr_eq (by decide) (by decide)) ⟨by decide, by decide⟩ ?_
  refine pr_aload_n dX12_hour_24 rfl ?_
  refine pr_iload_n dX12_hour_25 rfl ?_
  refine pr_iconst dX12_hour_26 ?_
  obtain ⟨q1, e2, h⟩ := pm_bs h
  refine pr_callV (As := [pv_i (Int.tdiv (wr (σ 25 (Int.toNat 751))) 24), pv_i 2]) (S := []) (t := 0) dX12_hour_27 mk_X12_107 lm_0 (ci := 12) (q := (RX12, TX12, 36)) rfl rfl rfl rfl (Nat.le_of_ble_eq_true rfl) (by decide) (by decide) (Or.inl rfl) (tmX12_reckoned e2) ?_
  refine pr_iconst dX12_hour_30 ?_
  refine pr_icmp_ne (tgt := 38) dX12_hour_31 rfl (wr_eq (by decide) (by decide)) (by decide) (fun c_3 => ?_) (fun c_3 => ?_)
  · have h := pm_ng c_3 h
    refine pr_iconst dX12_hour_38 ?_
    refine pr_weak (L2 := [some (pv_r 0), some (pv_i (Int.tdiv (wr (σ 25 (Int.toNat 751))) 24)), none, none, none, none]) ⟨Or.inr rfl, Or.inr rfl, Or.inl rfl, Or.inl rfl, Or.inl rfl, Or.inl rfl, trivial⟩ ?_
    exact tjX12_hour_39 h
  · have h := pm_pos c_3 h
    refine pr_iconst dX12_hour_34 ?_
    refine pr_goto (tgt := 39) dX12_hour_35 (by decide) ?_
    refine pr_weak (L2 := [some (pv_r 0), some (pv_i (Int.tdiv (wr (σ 25 (Int.toNat 751))) 24)), none, none, none, none]) ⟨Or.inr rfl, Or.inr rfl, Or.inl rfl, Or.inl rfl, Or.inl rfl, Or.inl rfl, trivial⟩ ?_
    exact tjX12_hour_39 h
