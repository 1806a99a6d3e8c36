def bdJ7_fill_53178_5 (r0 n0 : Nat) (y1 : Int) (y3 : Int) (z2 : Int) (σ : pm_M) : Option ((Int × pm_M) ⊕ (Int × pm_M)) :=
  if (wr y3) ≤ (wr z2) then (some (.inl (z2, σ))) else (pm_g (0 ≤ (wr z2) ∧ (wr z2) < (n0 : Int)) (some (.inr ((z2 + 1), (pm_up σ r0 (Int.toNat (wr z2)) y1)))))
set_option maxHeartbeats 4000000 in
set_option maxRecDepth 100000 in
theorem tbJ7_fill_53178_5 {lay0 lay' : List pm_S} {r : Option pm_V} {σ' : pm_M} {r0 n0 : Nat} {lay : List pm_S} (g0 : lay[r0]? = some (ps_a n0)) (y1 : Int) (y3 : Int) : ∀ (a : Int × pm_M) (e : (Int × pm_M) ⊕ (Int × pm_M)), (fun a => bdJ7_fill_53178_5 r0 n0 y1 y3 a.1 a.2) a = some e → (∀ a, e = .inr a → (fun a => pm_J mJ7_fill_53178 0 0 lay0 r lay' σ' 5 [some (pv_r r0), some (pv_i y1), some (pv_i a.1), some (pv_i y3)] [] lay a.2) a) → (∀ a, e = .inl a → (fun a => pm_J mJ7_fill_53178 0 0 lay0 r lay' σ' 20 [none, none, none, none] [] lay a.2) a) → (fun a => pm_J mJ7_fill_53178 0 0 lay0 r lay' σ' 5 [some (pv_r r0), some (pv_i y1), some (pv_i a.1), some (pv_i y3)] [] lay a.2) a := by
  intro a e h hc hx
  obtain ⟨z2, σ⟩ := a
  have h : bdJ7_fill_53178_5 r0 n0 y1 y3 z2 σ = some e := h
  unfold bdJ7_fill_53178_5 at h
  show pm_J mJ7_fill_53178 0 0 lay0 r lay' σ' 5 [some (pv_r r0), some (pv_i y1), some (pv_i z2), some (pv_i y3)] [] lay σ
  refine pr_iload_n dJ7_fill_53178_5 rfl ?_
  refine pr_iload_n dJ7_fill_53178_6 rfl ?_
  refine pr_icmp_ge (tgt := 20) dJ7_fill_53178_7 rfl rfl (by decide) (fun c_1 => ?_) (fun c_1 => ?_)
  · have h := pm_pos c_1 h
    refine pr_weak (L2 := [none, none, none, none]) ⟨Or.inl rfl, Or.inl rfl, Or.inl rfl, Or.inl rfl, trivial⟩ ?_
    exact hx (z2, σ) (Option.some.inj h).symm
  · have h := pm_ng c_1 h
    refine pr_aload_n dJ7_fill_53178_10 rfl ?_
    refine pr_iload_n dJ7_fill_53178_11 rfl ?_
    refine pr_iload_n dJ7_fill_53178_12 rfl ?_
    obtain ⟨g_2, h⟩ := pm_gs h
    refine pr_iast dJ7_fill_53178_13 g0 rfl g_2 ?_
    refine pr_iinc dJ7_fill_53178_14 rfl (by decide) rfl ?_
    refine pr_goto (tgt := 5) dJ7_fill_53178_17 (by decide) ?_
    refine pr_weak (L2 := [some (pv_r r0), some (pv_i y1), some (pv_i (z2 + 1)), some (pv_i y3)]) ⟨Or.inr rfl, Or.inr rfl, Or.inr rfl, Or.inr rfl, trivial⟩ ?_
    exact hc ((z2 + 1), (pm_up σ r0 (Int.toNat (wr z2)) y1)) (Option.some.inj h).symm
def fJ7_fill_53178 (r0 n0 : Nat) (x1 : Int) (σ : pm_M) : Option (pm_M) :=
  (pm_it (fun a => bdJ7_fill_53178_5 r0 n0 x1 (n0 : Int) a.1 a.2) pm_fuel (0, σ)).bind fun v3 => some v3.2
set_option maxHeartbeats 4000000 in
set_option maxRecDepth 100000 in
theorem tmJ7_fill_53178 {r0 n0 : Nat} {lay : List pm_S} (g0 : lay[r0]? = some (ps_a n0)) {x1 : Int} {σ : pm_M} {ρ : pm_M} (h : fJ7_fill_53178 r0 n0 x1 σ = some ρ) : pm_C mJ7_fill_53178 0 0 [pv_r r0, pv_i x1] lay σ none lay ρ := by
  refine pm_C.of (by decide) rfl (Nat.le_of_ble_eq_true rfl) ?_
  show pm_J mJ7_fill_53178 0 0 lay none lay ρ 0 [some (pv_r r0), some (pv_i x1), none, none] [] lay σ
  unfold fJ7_fill_53178 at h
  refine pr_iconst dJ7_fill_53178_0 ?_
  refine pr_istore_n dJ7_fill_53178_1 (by decide) rfl ?_
  refine pr_aload_n dJ7_fill_53178_2 rfl ?_
  refine pr_alen dJ7_fill_53178_3 g0 ?_
  refine pr_istore_n dJ7_fill_53178_4 (by decide) rfl ?_
  obtain ⟨v3, e4, h⟩ := pm_bs h
  refine pr_weak (L2 := [some (pv_r r0), some (pv_i x1), some (pv_i 0), some (pv_i (n0 : Int))]) ⟨Or.inr rfl, Or.inr rfl, Or.inr rfl, Or.inr rfl, trivial⟩ ?_
  refine pm_it_J (α := Int × pm_M) (β := Int × pm_M) (f := fun a => bdJ7_fill_53178_5 r0 n0 x1 (n0 : Int) a.1 a.2) (P := fun a => pm_J mJ7_fill_53178 0 0 lay none lay ρ 5 [some (pv_r r0), some (pv_i x1), some (pv_i a.1), some (pv_i (n0 : Int))] [] lay a.2) (Rx := fun a => pm_J mJ7_fill_53178 0 0 lay none lay ρ 20 [none, none, none, none] [] lay a.2) (tbJ7_fill_53178_5 g0 x1 (n0 : Int)) pm_fuel (0, σ) v3 e4 ?_
  show pm_J mJ7_fill_53178 0 0 lay none lay ρ 20 [none, none, none, none] [] lay v3.2
  have h := Option.some.inj h
  subst h
  exact pr_vret dJ7_fill_53178_20 rfl
