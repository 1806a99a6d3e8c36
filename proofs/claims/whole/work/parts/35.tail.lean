def bdX12_init_266 (z1 : Int) (σ : pm_M) : Option ((Int × pm_M) ⊕ (Int × pm_M)) :=
  if 101 ≤ (wr z1) then (some (.inl (z1, σ))) else (pm_g (0 ≤ (wr z1) ∧ (wr z1) < 303) (pm_g (0 ≤ (wr (101 + z1)) ∧ (wr (101 + z1)) < 303) (some (.inr ((z1 + 1), (pm_up (pm_up σ 2 (Int.toNat (wr z1)) (-1)) 2 (Int.toNat (wr (101 + z1))) (-1)))))))
set_option maxHeartbeats 4000000 in
set_option maxRecDepth 100000 in
theorem tbX12_init_266 {lay0 lay' : List pm_S} {r : Option pm_V} {σ' : pm_M} : ∀ (a : Int × pm_M) (e : (Int × pm_M) ⊕ (Int × pm_M)), (fun a => bdX12_init_266 a.1 a.2) a = some e → (∀ a, e = .inr a → (fun a => pm_J mX12_init 1 20 lay0 r lay' σ' 266 [some (pv_r 0), some (pv_i a.1)] [] LAYM a.2) a) → (∀ a, e = .inl a → (fun a => pm_J mX12_init 1 20 lay0 r lay' σ' 295 [some (pv_r 0), none] [] LAYM a.2) a) → (fun a => pm_J mX12_init 1 20 lay0 r lay' σ' 266 [some (pv_r 0), some (pv_i a.1)] [] LAYM a.2) a := by
  intro a e h hc hx
  obtain ⟨z1, σ⟩ := a
  have h : bdX12_init_266 z1 σ = some e := h
  unfold bdX12_init_266 at h
  show pm_J mX12_init 1 20 lay0 r lay' σ' 266 [some (pv_r 0), some (pv_i z1)] [] LAYM σ
  refine pr_iload_n dX12_init_266 rfl ?_
  refine pr_bipush dX12_init_267 (by decide) ?_
  refine pr_icmp_ge (tgt := 295) dX12_init_269 rfl (wr_eq (by decide) (by decide)) (by decide) (fun c_1 => ?_) (fun c_1 => ?_)
  · have h := pm_pos c_1 h
    refine pr_weak (L2 := [some (pv_r 0), none]) ⟨Or.inr rfl, Or.inl rfl, trivial⟩ ?_
    exact hx (z1, σ) (Option.some.inj h).symm
  · have h := pm_ng c_1 h
    refine pr_aload_n dX12_init_272 rfl ?_
    refine pr_getR dX12_init_273 lk_X12_13 lm_0 rfl ?_
    refine pr_iload_n dX12_init_276 rfl ?_
    refine pr_iconst dX12_init_277 ?_
    obtain ⟨g_2, h⟩ := pm_gs h
    refine pr_iast dX12_init_278 lm_2 rfl g_2 ?_
    refine pr_aload_n dX12_init_279 rfl ?_
    refine pr_getR dX12_init_280 lk_X12_13 lm_0 rfl ?_
    refine pr_bipush dX12_init_283 (by decide) ?_
    refine pr_iload_n dX12_init_285 rfl ?_
    refine pr_iadd dX12_init_286 ?_
    refine pr_iconst dX12_init_287 ?_
    obtain ⟨g_3, h⟩ := pm_gs h
    refine pr_iast dX12_init_288 lm_2 rfl g_3 ?_
    refine pr_iinc dX12_init_289 rfl (by decide) rfl ?_
    refine pr_goto (tgt := 266) dX12_init_292 (by decide) ?_
    refine pr_weak (L2 := [some (pv_r 0), some (pv_i (z1 + 1))]) ⟨Or.inr rfl, Or.inr rfl, trivial⟩ ?_
    exact hc ((z1 + 1), (pm_up (pm_up σ 2 (Int.toNat (wr z1)) (-1)) 2 (Int.toNat (wr (101 + z1))) (-1))) (Option.some.inj h).symm
def bdX12_init_297 (z1 : Int) (σ : pm_M) : Option ((Int × pm_M) ⊕ (Int × pm_M)) :=
  if 9 ≤ (wr z1) then (some (.inl (z1, σ))) else (pm_g (0 ≤ (wr z1) ∧ (wr z1) < 9) (pm_g (0 ≤ (wr z1) ∧ (wr z1) < 9) (pm_g (0 ≤ (wr z1) ∧ (wr z1) < 9) (some (.inr ((z1 + 1), (pm_up (pm_up (pm_up σ 3 (Int.toNat (wr z1)) 5) 4 (Int.toNat (wr z1)) 10) 5 (Int.toNat (wr z1)) 8)))))))
set_option maxHeartbeats 4000000 in
set_option maxRecDepth 100000 in
theorem tbX12_init_297 {lay0 lay' : List pm_S} {r : Option pm_V} {σ' : pm_M} : ∀ (a : Int × pm_M) (e : (Int × pm_M) ⊕ (Int × pm_M)), (fun a => bdX12_init_297 a.1 a.2) a = some e → (∀ a, e = .inr a → (fun a => pm_J mX12_init 1 20 lay0 r lay' σ' 297 [some (pv_r 0), some (pv_i a.1)] [] LAYM a.2) a) → (∀ a, e = .inl a → (fun a => pm_J mX12_init 1 20 lay0 r lay' σ' 332 [none, none] [] LAYM a.2) a) → (fun a => pm_J mX12_init 1 20 lay0 r lay' σ' 297 [some (pv_r 0), some (pv_i a.1)] [] LAYM a.2) a := by
  intro a e h hc hx
  obtain ⟨z1, σ⟩ := a
  have h : bdX12_init_297 z1 σ = some e := h
  unfold bdX12_init_297 at h
  show pm_J mX12_init 1 20 lay0 r lay' σ' 297 [some (pv_r 0), some (pv_i z1)] [] LAYM σ
  refine pr_iload_n dX12_init_297 rfl ?_
  refine pr_bipush dX12_init_298 (by decide) ?_
  refine pr_icmp_ge (tgt := 332) dX12_init_300 rfl (wr_eq (by decide) (by decide)) (by decide) (fun c_6 => ?_) (fun c_6 => ?_)
  · have h := pm_pos c_6 h
    refine pr_weak (L2 := [none, none]) ⟨Or.inl rfl, Or.inl rfl, trivial⟩ ?_
    exact hx (z1, σ) (Option.some.inj h).symm
  · have h := pm_ng c_6 h
    refine pr_aload_n dX12_init_303 rfl ?_
    refine pr_getR dX12_init_304 lk_X12_16 lm_0 rfl ?_
    refine pr_iload_n dX12_init_307 rfl ?_
    refine pr_iconst dX12_init_308 ?_
    obtain ⟨g_7, h⟩ := pm_gs h
    refine pr_iast dX12_init_309 lm_3 rfl g_7 ?_
    refine pr_aload_n dX12_init_310 rfl ?_
    refine pr_getR dX12_init_311 lk_X12_19 lm_0 rfl ?_
    refine pr_iload_n dX12_init_314 rfl ?_
    refine pr_bipush dX12_init_315 (by decide) ?_
    obtain ⟨g_8, h⟩ := pm_gs h
    refine pr_iast dX12_init_317 lm_4 rfl g_8 ?_
    refine pr_aload_n dX12_init_318 rfl ?_
    refine pr_getR dX12_init_319 lk_X12_22 lm_0 rfl ?_
    refine pr_iload_n dX12_init_322 rfl ?_
    refine pr_bipush dX12_init_323 (by decide) ?_
    obtain ⟨g_9, h⟩ := pm_gs h
    refine pr_iast dX12_init_325 lm_5 rfl g_9 ?_
    refine pr_iinc dX12_init_326 rfl (by decide) rfl ?_
    refine pr_goto (tgt := 297) dX12_init_329 (by decide) ?_
    refine pr_weak (L2 := [some (pv_r 0), some (pv_i (z1 + 1))]) ⟨Or.inr rfl, Or.inr rfl, trivial⟩ ?_
    exact hc ((z1 + 1), (pm_up (pm_up (pm_up σ 3 (Int.toNat (wr z1)) 5) 4 (Int.toNat (wr z1)) 10) 5 (Int.toNat (wr z1)) 8)) (Option.some.inj h).symm
def fX12_tail (σ : pm_M) : Option pm_M :=
  (pm_it (fun a => bdX12_init_266 a.1 a.2) pm_fuel (0, σ)).bind fun v4 => (pm_it (fun a => bdX12_init_297 a.1 a.2) pm_fuel (0, v4.2)).bind fun v10 => some v10.2
set_option maxHeartbeats 4000000 in
set_option maxRecDepth 100000 in
theorem tX12_tail {lay0 : List pm_S} {σ ρ : pm_M} (h : fX12_tail σ = some ρ) : pm_J mX12_init 1 20 lay0 none LAYM ρ 264 [some (pv_r 0), none] [] LAYM σ := by
  unfold fX12_tail at h
  refine pr_iconst dX12_init_264 ?_
  refine pr_istore_n dX12_init_265 (by decide) rfl ?_
  obtain ⟨v4, e5, h⟩ := pm_bs h
  refine pr_weak (L2 := [some (pv_r 0), some (pv_i 0)]) ⟨Or.inr rfl, Or.inr rfl, trivial⟩ ?_
  refine pm_it_J (α := Int × pm_M) (β := Int × pm_M) (f := fun a => bdX12_init_266 a.1 a.2) (P := fun a => pm_J mX12_init 1 20 lay0 none LAYM ρ 266 [some (pv_r 0), some (pv_i a.1)] [] LAYM a.2) (Rx := fun a => pm_J mX12_init 1 20 lay0 none LAYM ρ 295 [some (pv_r 0), none] [] LAYM a.2) (tbX12_init_266) pm_fuel (0, σ) v4 e5 ?_
  show pm_J mX12_init 1 20 lay0 none LAYM ρ 295 [some (pv_r 0), none] [] LAYM v4.2
  refine pr_iconst dX12_init_295 ?_
  refine pr_istore_n dX12_init_296 (by decide) rfl ?_
  obtain ⟨v10, e11, h⟩ := pm_bs h
  refine pr_weak (L2 := [some (pv_r 0), some (pv_i 0)]) ⟨Or.inr rfl, Or.inr rfl, trivial⟩ ?_
  refine pm_it_J (α := Int × pm_M) (β := Int × pm_M) (f := fun a => bdX12_init_297 a.1 a.2) (P := fun a => pm_J mX12_init 1 20 lay0 none LAYM ρ 297 [some (pv_r 0), some (pv_i a.1)] [] LAYM a.2) (Rx := fun a => pm_J mX12_init 1 20 lay0 none LAYM ρ 332 [none, none] [] LAYM a.2) (tbX12_init_297) pm_fuel (0, v4.2) v10 e11 ?_
  show pm_J mX12_init 1 20 lay0 none LAYM ρ 332 [none, none] [] LAYM v10.2
  have h := Option.some.inj h
  subst h
  exact pr_vret dX12_init_332 rfl
