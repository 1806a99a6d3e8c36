def fX11_copyRow (r0 n0 : Nat) (r1 n1 : Nat) (σ : pm_M) : Option (pm_M) :=
  pm_g ((0 : Int) ≤ 0 ∧ (0 : Int) ≤ 0 ∧ (0 : Int) ≤ (wr (pm_min (n0 : Int) (n1 : Int))) ∧ 0 + (wr (pm_min (n0 : Int) (n1 : Int))) ≤ (n0 : Int) ∧ 0 + (wr (pm_min (n0 : Int) (n1 : Int))) ≤ (n1 : Int)) (some (pm_cp σ r0 (Int.toNat 0) r1 (Int.toNat 0) (Int.toNat (wr (pm_min (n0 : Int) (n1 : Int))))))
set_option maxHeartbeats 4000000 in
set_option maxRecDepth 100000 in
theorem tmX11_copyRow {r1 n1 : Nat} {r0 n0 : Nat} {lay : List pm_S} (g0 : lay[r0]? = some (ps_a n0)) (g1 : lay[r1]? = some (ps_a n1)) {σ : pm_M} {ρ : pm_M} (h : fX11_copyRow r0 n0 r1 n1 σ = some ρ) : pm_C mX11_copyRow 1 60 [pv_r r0, pv_r r1] lay σ none lay ρ := by
  refine pm_C.of (by decide) rfl (Nat.le_of_ble_eq_true rfl) ?_
  show pm_J mX11_copyRow 1 60 lay none lay ρ 0 [some (pv_r r0), some (pv_r r1)] [] lay σ
  unfold fX11_copyRow at h
  refine pr_aload_n dX11_copyRow_0 rfl ?_
  refine pr_iconst dX11_copyRow_1 ?_
  refine pr_aload_n dX11_copyRow_2 rfl ?_
  refine pr_iconst dX11_copyRow_3 ?_
  refine pr_aload_n dX11_copyRow_4 rfl ?_
  refine pr_alen dX11_copyRow_5 g0 ?_
  refine pr_aload_n dX11_copyRow_6 rfl ?_
  refine pr_alen dX11_copyRow_7 g1 ?_
  refine pr_mmin dX11_copyRow_8 mm_X11_268 (by decide) (Nat.le_of_ble_eq_true rfl) ?_
  obtain ⟨g_1, h⟩ := pm_gs h
  refine pr_acopy dX11_copyRow_11 ac_X11_360 g0 g1 (wr_eq (by decide) (by decide)) (wr_eq (by decide) (by decide)) rfl g_1 (by decide) (Nat.le_of_ble_eq_true rfl) ?_
  have h := Option.some.inj h
  subst h
  exact pr_vret dX11_copyRow_14 rfl
def bdX9_reckon_5 (r0 n0 : Nat) (r1 n1 : Nat) (y2 : Int) (z3 : Int) (z4 : Int) (σ : pm_M) : Option ((Int × Int × pm_M) ⊕ (Int × Int × pm_M)) :=
  if 101 ≤ (wr z4) then (some (.inl (z3, z4, σ))) else (pm_g (0 ≤ (wr z4) ∧ (wr z4) < (n0 : Int)) (if (wr (σ r0 (Int.toNat (wr z4)))) = (-1) then (pm_g (0 ≤ (wr z4) ∧ (wr z4) < (n1 : Int)) (some (.inr (z3, (z4 + 1), (pm_up σ r1 (Int.toNat (wr z4)) z3))))) else (pm_g (0 ≤ (wr z4) ∧ (wr z4) < (n0 : Int)) (pm_g (0 ≤ (wr z4) ∧ (wr z4) < (n1 : Int)) (some (.inr ((σ r0 (Int.toNat (wr z4))), (z4 + 1), (pm_up σ r1 (Int.toNat (wr z4)) (σ r0 (Int.toNat (wr z4)))))))))))
set_option maxHeartbeats 4000000 in
set_option maxRecDepth 100000 in
theorem tbX9_reckon_5 {lay0 lay' : List pm_S} {r : Option pm_V} {σ' : pm_M} {r1 n1 : Nat} {r0 n0 : Nat} {lay : List pm_S} (g0 : lay[r0]? = some (ps_a n0)) (g1 : lay[r1]? = some (ps_a n1)) (y2 : Int) : ∀ (a : Int × Int × pm_M) (e : (Int × Int × pm_M) ⊕ (Int × Int × pm_M)), (fun a => bdX9_reckon_5 r0 n0 r1 n1 y2 a.1 a.2.1 a.2.2) a = some e → (∀ a, e = .inr a → (fun a => pm_J mX9_reckon 1 22 lay0 r lay' σ' 5 [some (pv_r r0), some (pv_r r1), some (pv_i y2), some (pv_i a.1), some (pv_i a.2.1), none] [] lay a.2.2) a) → (∀ a, e = .inl a → (fun a => pm_J mX9_reckon 1 22 lay0 r lay' σ' 36 [some (pv_r r0), some (pv_r r1), some (pv_i y2), none, none, none] [] lay a.2.2) a) → (fun a => pm_J mX9_reckon 1 22 lay0 r lay' σ' 5 [some (pv_r r0), some (pv_r r1), some (pv_i y2), some (pv_i a.1), some (pv_i a.2.1), none] [] lay a.2.2) a := by
  intro a e h hc hx
  obtain ⟨z3, z4, σ⟩ := a
  have h : bdX9_reckon_5 r0 n0 r1 n1 y2 z3 z4 σ = some e := h
  unfold bdX9_reckon_5 at h
  show pm_J mX9_reckon 1 22 lay0 r lay' σ' 5 [some (pv_r r0), some (pv_r r1), some (pv_i y2), some (pv_i z3), some (pv_i z4), none] [] lay σ
  refine pr_iload dX9_reckon_5 rfl ?_
  refine pr_bipush dX9_reckon_7 (by decide) ?_
  refine pr_icmp_ge (tgt := 36) dX9_reckon_9 rfl (wr_eq (by decide) (by decide)) (by decide) (fun c_1 => ?_) (fun c_1 => ?_)
  · have h := pm_pos c_1 h
    refine pr_weak (L2 := [some (pv_r r0), some (pv_r r1), some (pv_i y2), none, none, none]) ⟨Or.inr rfl, Or.inr rfl, Or.inr rfl, Or.inl rfl, Or.inl rfl, Or.inl rfl, trivial⟩ ?_
    exact hx (z3, z4, σ) (Option.some.inj h).symm
  · have h := pm_ng c_1 h
    refine pr_aload_n dX9_reckon_12 rfl ?_
    refine pr_iload dX9_reckon_13 rfl ?_
    obtain ⟨g_2, h⟩ := pm_gs h
    refine pr_iald dX9_reckon_15 g0 rfl g_2 ?_
    refine pr_iconst dX9_reckon_16 ?_
    refine pr_icmp_eq (tgt := 25) dX9_reckon_17 rfl (wr_eq (by decide) (by decide)) (by decide) (fun c_3 => ?_) (fun c_3 => ?_)
    · have h := pm_pos c_3 h
      refine pr_aload_n dX9_reckon_25 rfl ?_
      refine pr_iload dX9_reckon_26 rfl ?_
      refine pr_iload_n dX9_reckon_28 rfl ?_
      obtain ⟨g_4, h⟩ := pm_gs h
      refine pr_iast dX9_reckon_29 g1 rfl g_4 ?_
      refine pr_iinc dX9_reckon_30 rfl (by decide) rfl ?_
      refine pr_goto (tgt := 5) dX9_reckon_33 (by decide) ?_
      refine pr_weak (L2 := [some (pv_r r0), some (pv_r r1), some (pv_i y2), some (pv_i z3), some (pv_i (z4 + 1)), none]) ⟨Or.inr rfl, Or.inr rfl, Or.inr rfl, Or.inr rfl, Or.inr rfl, Or.inl rfl, trivial⟩ ?_
      exact hc (z3, (z4 + 1), (pm_up σ r1 (Int.toNat (wr z4)) z3)) (Option.some.inj h).symm
    · have h := pm_ng c_3 h
      refine pr_aload_n dX9_reckon_20 rfl ?_
      refine pr_iload dX9_reckon_21 rfl ?_
      obtain ⟨g_5, h⟩ := pm_gs h
      refine pr_iald dX9_reckon_23 g0 rfl g_5 ?_
      refine pr_istore_n dX9_reckon_24 (by decide) rfl ?_
      refine pr_aload_n dX9_reckon_25 rfl ?_
      refine pr_iload dX9_reckon_26 rfl ?_
      refine pr_iload_n dX9_reckon_28 rfl ?_
      obtain ⟨g_6, h⟩ := pm_gs h
      refine pr_iast dX9_reckon_29 g1 rfl g_6 ?_
      refine pr_iinc dX9_reckon_30 rfl (by decide) rfl ?_
      refine pr_goto (tgt := 5) dX9_reckon_33 (by decide) ?_
      refine pr_weak (L2 := [some (pv_r r0), some (pv_r r1), some (pv_i y2), some (pv_i (σ r0 (Int.toNat (wr z4)))), some (pv_i (z4 + 1)), none]) ⟨Or.inr rfl, Or.inr rfl, Or.inr rfl, Or.inr rfl, Or.inr rfl, Or.inl rfl, trivial⟩ ?_
      exact hc ((σ r0 (Int.toNat (wr z4))), (z4 + 1), (pm_up σ r1 (Int.toNat (wr z4)) (σ r0 (Int.toNat (wr z4))))) (Option.some.inj h).symm
def jnX9_reckon_62l43 (r0 n0 : Nat) (r1 n1 : Nat) (y2 : Int) (w4 : Int) (w5 : Int) (σ : pm_M) : Option ((Int × Int × pm_M) ⊕ (Int × Int × pm_M)) :=
  pm_g (0 ≤ (wr w5) ∧ (wr w5) < (n1 : Int)) ((fX9_between (σ r1 (Int.toNat (wr w5))) w4 y2).bind fun q13 => pm_g (0 ≤ (wr w5) ∧ (wr w5) < (n1 : Int)) (some (.inr (w4, (w5 + (-1)), (pm_up σ r1 (Int.toNat (wr w5)) q13)))))
set_option maxHeartbeats 4000000 in
set_option maxRecDepth 100000 in
theorem tjX9_reckon_62l43 {lay0 lay' : List pm_S} {r : Option pm_V} {σ' : pm_M} {r1 n1 : Nat} {r0 n0 : Nat} {lay : List pm_S} (g0 : lay[r0]? = some (ps_a n0)) (g1 : lay[r1]? = some (ps_a n1)) {y2 : Int} {w4 : Int} {w5 : Int} {σ : pm_M} {e : (Int × Int × pm_M) ⊕ (Int × Int × pm_M)} (h : jnX9_reckon_62l43 r0 n0 r1 n1 y2 w4 w5 σ = some e) (hc : ∀ a, e = .inr a → (fun a => pm_J mX9_reckon 1 22 lay0 r lay' σ' 43 [some (pv_r r0), some (pv_r r1), some (pv_i y2), none, some (pv_i a.1), some (pv_i a.2.1)] [] lay a.2.2) a) (hx : ∀ a, e = .inl a → (fun a => pm_J mX9_reckon 1 22 lay0 r lay' σ' 82 [none, none, none, none, none, none] [] lay a.2.2) a) : pm_J mX9_reckon 1 22 lay0 r lay' σ' 62 [some (pv_r r0), some (pv_r r1), some (pv_i y2), none, some (pv_i w4), some (pv_i w5)] [] lay σ := by
  unfold jnX9_reckon_62l43 at h
  refine pr_aload_n dX9_reckon_62 rfl ?_
  refine pr_iload dX9_reckon_63 rfl ?_
  refine pr_aload_n dX9_reckon_65 rfl ?_
  refine pr_iload dX9_reckon_66 rfl ?_
  obtain ⟨g_12, h⟩ := pm_gs h
  refine pr_iald dX9_reckon_68 g1 rfl g_12 ?_
  refine pr_iload dX9_reckon_69 rfl ?_
  refine pr_iload_n dX9_reckon_71 rfl ?_
  obtain ⟨q13, e14, h⟩ := pm_bs h
  refine pr_callS (av := [pv_i (σ r1 (Int.toNat (wr w5))), pv_i w4, pv_i y2]) (S := [pv_i w5, pv_r r1]) dX9_reckon_72 mk_X9_33 rfl rfl (Nat.le_of_ble_eq_true rfl) (by decide) (by decide) (Or.inl rfl) (tmX9_between e14) ?_
  obtain ⟨g_15, h⟩ := pm_gs h
  refine pr_iast dX9_reckon_75 g1 rfl g_15 ?_
  refine pr_iinc dX9_reckon_76 rfl (by decide) rfl ?_
  refine pr_goto (tgt := 43) dX9_reckon_79 (by decide) ?_
  refine pr_weak (L2 := [some (pv_r r0), some (pv_r r1), some (pv_i y2), none, some (pv_i w4), some (pv_i (w5 + (-1)))]) ⟨Or.inr rfl, Or.inr rfl, Or.inr rfl, Or.inl rfl, Or.inr rfl, Or.inr rfl, trivial⟩ ?_
  exact hc (w4, (w5 + (-1)), (pm_up σ r1 (Int.toNat (wr w5)) q13)) (Option.some.inj h).symm
def bdX9_reckon_43 (r0 n0 : Nat) (r1 n1 : Nat) (y2 : Int) (z4 : Int) (z5 : Int) (σ : pm_M) : Option ((Int × Int × pm_M) ⊕ (Int × Int × pm_M)) :=
  if (wr z5) < 0 then (some (.inl (z4, z5, σ))) else (pm_g (0 ≤ (wr z5) ∧ (wr z5) < (n0 : Int)) (if (wr (σ r0 (Int.toNat (wr z5)))) = (-1) then (jnX9_reckon_62l43 r0 n0 r1 n1 y2 z4 z5 σ) else (pm_g (0 ≤ (wr z5) ∧ (wr z5) < (n0 : Int)) (jnX9_reckon_62l43 r0 n0 r1 n1 y2 (σ r0 (Int.toNat (wr z5))) z5 σ))))
set_option maxHeartbeats 4000000 in
set_option maxRecDepth 100000 in
theorem tbX9_reckon_43 {lay0 lay' : List pm_S} {r : Option pm_V} {σ' : pm_M} {r1 n1 : Nat} {r0 n0 : Nat} {lay : List pm_S} (g0 : lay[r0]? = some (ps_a n0)) (g1 : lay[r1]? = some (ps_a n1)) (y2 : Int) : ∀ (a : Int × Int × pm_M) (e : (Int × Int × pm_M) ⊕ (Int × Int × pm_M)), (fun a => bdX9_reckon_43 r0 n0 r1 n1 y2 a.1 a.2.1 a.2.2) a = some e → (∀ a, e = .inr a → (fun a => pm_J mX9_reckon 1 22 lay0 r lay' σ' 43 [some (pv_r r0), some (pv_r r1), some (pv_i y2), none, some (pv_i a.1), some (pv_i a.2.1)] [] lay a.2.2) a) → (∀ a, e = .inl a → (fun a => pm_J mX9_reckon 1 22 lay0 r lay' σ' 82 [none, none, none, none, none, none] [] lay a.2.2) a) → (fun a => pm_J mX9_reckon 1 22 lay0 r lay' σ' 43 [some (pv_r r0), some (pv_r r1), some (pv_i y2), none, some (pv_i a.1), some (pv_i a.2.1)] [] lay a.2.2) a := by
  intro a e h hc hx
  obtain ⟨z4, z5, σ⟩ := a
  have h : bdX9_reckon_43 r0 n0 r1 n1 y2 z4 z5 σ = some e := h
  unfold bdX9_reckon_43 at h
  show pm_J mX9_reckon 1 22 lay0 r lay' σ' 43 [some (pv_r r0), some (pv_r r1), some (pv_i y2), none, some (pv_i z4), some (pv_i z5)] [] lay σ
  refine pr_iload dX9_reckon_43 rfl ?_
  refine pr_if_lt (tgt := 82) dX9_reckon_45 rfl (by decide) (fun c_9 => ?_) (fun c_9 => ?_)
  · have h := pm_pos c_9 h
    refine pr_weak (L2 := [none, none, none, none, none, none]) ⟨Or.inl rfl, Or.inl rfl, Or.inl rfl, Or.inl rfl, Or.inl rfl, Or.inl rfl, trivial⟩ ?_
    exact hx (z4, z5, σ) (Option.some.inj h).symm
  · have h := pm_ng c_9 h
    refine pr_aload_n dX9_reckon_48 rfl ?_
    refine pr_iload dX9_reckon_49 rfl ?_
    obtain ⟨g_10, h⟩ := pm_gs h
    refine pr_iald dX9_reckon_51 g0 rfl g_10 ?_
    refine pr_iconst dX9_reckon_52 ?_
    refine pr_icmp_eq (tgt := 62) dX9_reckon_53 rfl (wr_eq (by decide) (by decide)) (by decide) (fun c_11 => ?_) (fun c_11 => ?_)
    · have h := pm_pos c_11 h
      refine pr_weak (L2 := [some (pv_r r0), some (pv_r r1), some (pv_i y2), none, some (pv_i z4), some (pv_i z5)]) ⟨Or.inr rfl, Or.inr rfl, Or.inr rfl, Or.inl rfl, Or.inr rfl, Or.inr rfl, trivial⟩ ?_
      exact tjX9_reckon_62l43 g0 g1 h hc hx
    · have h := pm_ng c_11 h
      refine pr_aload_n dX9_reckon_56 rfl ?_
      refine pr_iload dX9_reckon_57 rfl ?_
      obtain ⟨g_16, h⟩ := pm_gs h
      refine pr_iald dX9_reckon_59 g0 rfl g_16 ?_
      refine pr_istore dX9_reckon_60 (by decide) rfl ?_
      refine pr_weak (L2 := [some (pv_r r0), some (pv_r r1), some (pv_i y2), none, some (pv_i (σ r0 (Int.toNat (wr z5)))), some (pv_i z5)]) ⟨Or.inr rfl, Or.inr rfl, Or.inr rfl, Or.inl rfl, Or.inr rfl, Or.inr rfl, trivial⟩ ?_
      exact tjX9_reckon_62l43 g0 g1 h hc hx
def fX9_reckon (r0 n0 : Nat) (r1 n1 : Nat) (x2 : Int) (σ : pm_M) : Option (pm_M) :=
  (pm_it (fun a => bdX9_reckon_5 r0 n0 r1 n1 x2 a.1 a.2.1 a.2.2) pm_fuel ((-1), 0, σ)).bind fun v7 => (pm_it (fun a => bdX9_reckon_43 r0 n0 r1 n1 x2 a.1 a.2.1 a.2.2) pm_fuel ((-1), 100, v7.2.2)).bind fun v17 => some v17.2.2
set_option maxHeartbeats 4000000 in
set_option maxRecDepth 100000 in
theorem tmX9_reckon {r1 n1 : Nat} {r0 n0 : Nat} {lay : List pm_S} (g0 : lay[r0]? = some (ps_a n0)) (g1 : lay[r1]? = some (ps_a n1)) {x2 : Int} {σ : pm_M} {ρ : pm_M} (h : fX9_reckon r0 n0 r1 n1 x2 σ = some ρ) : pm_C mX9_reckon 1 22 [pv_r r0, pv_r r1, pv_i x2] lay σ none lay ρ := by
  refine pm_C.of (by decide) rfl (Nat.le_of_ble_eq_true rfl) ?_
  show pm_J mX9_reckon 1 22 lay none lay ρ 0 [some (pv_r r0), some (pv_r r1), some (pv_i x2), none, none, none] [] lay σ
  unfold fX9_reckon at h
  refine pr_iconst dX9_reckon_0 ?_
  refine pr_istore_n dX9_reckon_1 (by decide) rfl ?_
  refine pr_iconst dX9_reckon_2 ?_
  refine pr_istore dX9_reckon_3 (by decide) rfl ?_
  obtain ⟨v7, e8, h⟩ := pm_bs h
  refine pr_weak (L2 := [some (pv_r r0), some (pv_r r1), some (pv_i x2), some (pv_i (-1)), some (pv_i 0), none]) ⟨Or.inr rfl, Or.inr rfl, Or.inr rfl, Or.inr rfl, Or.inr rfl, Or.inl rfl, trivial⟩ ?_
  refine pm_it_J (α := Int × Int × pm_M) (β := Int × Int × pm_M) (f := fun a => bdX9_reckon_5 r0 n0 r1 n1 x2 a.1 a.2.1 a.2.2) (P := fun a => pm_J mX9_reckon 1 22 lay none lay ρ 5 [some (pv_r r0), some (pv_r r1), some (pv_i x2), some (pv_i a.1), some (pv_i a.2.1), none] [] lay a.2.2) (Rx := fun a => pm_J mX9_reckon 1 22 lay none lay ρ 36 [some (pv_r r0), some (pv_r r1), some (pv_i x2), none, none, none] [] lay a.2.2) (tbX9_reckon_5 g0 g1 x2) pm_fuel ((-1), 0, σ) v7 e8 ?_
  show pm_J mX9_reckon 1 22 lay none lay ρ 36 [some (pv_r r0), some (pv_r r1), some (pv_i x2), none, none, none] [] lay v7.2.2
  refine pr_iconst dX9_reckon_36 ?_
  refine pr_istore dX9_reckon_37 (by decide) rfl ?_
  refine pr_bipush dX9_reckon_39 (by decide) ?_
  refine pr_istore dX9_reckon_41 (by decide) rfl ?_
  obtain ⟨v17, e18, h⟩ := pm_bs h
  refine pr_weak (L2 := [some (pv_r r0), some (pv_r r1), some (pv_i x2), none, some (pv_i (-1)), some (pv_i 100)]) ⟨Or.inr rfl, Or.inr rfl, Or.inr rfl, Or.inl rfl, Or.inr rfl, Or.inr rfl, trivial⟩ ?_
  refine pm_it_J (α := Int × Int × pm_M) (β := Int × Int × pm_M) (f := fun a => bdX9_reckon_43 r0 n0 r1 n1 x2 a.1 a.2.1 a.2.2) (P := fun a => pm_J mX9_reckon 1 22 lay none lay ρ 43 [some (pv_r r0), some (pv_r r1), some (pv_i x2), none, some (pv_i a.1), some (pv_i a.2.1)] [] lay a.2.2) (Rx := fun a => pm_J mX9_reckon 1 22 lay none lay ρ 82 [none, none, none, none, none, none] [] lay a.2.2) (tbX9_reckon_43 g0 g1 x2) pm_fuel ((-1), 100, v7.2.2) v17 e18 ?_
  show pm_J mX9_reckon 1 22 lay none lay ρ 82 [none, none, none, none, none, none] [] lay v17.2.2
  have h := Option.some.inj h
  subst h
  exact pr_vret dX9_reckon_82 rfl
def fX9_on (x1 : Int) (x2 : Int) (σ : pm_M) : Option (Int) :=
  pm_g (0 ≤ (wr x2) ∧ (wr x2) < 3) (pm_g (0 ≤ (wr x1) ∧ (wr x1) < 101) (some (σ (7 + Int.toNat (wr x2)) (Int.toNat (wr x1)))))
set_option maxHeartbeats 4000000 in
set_option maxRecDepth 100000 in
theorem tmX9_on {x1 : Int} {x2 : Int} {σ : pm_M} {ρ : Int} (h : fX9_on x1 x2 σ = some ρ) : pm_C mX9_on 0 0 [pv_r 1, pv_i x1, pv_i x2] LAYC σ (some (pv_i ρ)) LAYC σ := by
  refine pm_C.of (by decide) rfl (Nat.le_of_ble_eq_true rfl) ?_
  show pm_J mX9_on 0 0 LAYC (some (pv_i ρ)) LAYC σ 0 [some (pv_r 1), some (pv_i x1), some (pv_i x2)] [] LAYC σ
  unfold fX9_on at h
  refine pr_aload_n dX9_on_0 rfl ?_
  refine pr_getR dX9_on_1 lk_X9_16 lc_1 rfl ?_
  refine pr_iload_n dX9_on_4 rfl ?_
  obtain ⟨g_1, h⟩ := pm_gs h
  refine pr_aald dX9_on_5 lc_6 rfl g_1.1 (pm_row3 g_1) ?_
  refine pr_iload_n dX9_on_6 rfl ?_
  obtain ⟨g_2, h⟩ := pm_gs h
  refine pr_iald dX9_on_7 (lr_7 g_1) rfl g_2 ?_
  have h := Option.some.inj h
  subst h
  exact pr_iret dX9_on_8 rfl
def fX9_tell (x1 : Int) (x2 : Int) (x3 : Int) (σ : pm_M) : Option (pm_M) :=
  pm_g (0 ≤ (wr x2) ∧ (wr x2) < 3) (pm_g (0 ≤ (wr x1) ∧ (wr x1) < 101) (pm_g (0 ≤ (wr x2) ∧ (wr x2) < 3) (pm_g (0 ≤ (wr x2) ∧ (wr x2) < 3) (pm_g (0 ≤ (wr x2) ∧ (wr x2) < 3) ((fX9_reckon (3 + Int.toNat (wr x2)) 101 (7 + Int.toNat (wr x2)) 101 (([20, 4, 0] : List Int).getD (Int.toNat (wr x2)) 0) (pm_up σ (3 + Int.toNat (wr x2)) (Int.toNat (wr x1)) x3)).bind fun q6 => some q6)))))
set_option maxHeartbeats 4000000 in
set_option maxRecDepth 100000 in
theorem tmX9_tell {x1 : Int} {x2 : Int} {x3 : Int} {σ : pm_M} {ρ : pm_M} (h : fX9_tell x1 x2 x3 σ = some ρ) : pm_C mX9_tell 2 47 [pv_r 1, pv_i x1, pv_i x2, pv_i x3] LAYC σ none LAYC ρ := by
  refine pm_C.of (by decide) rfl (Nat.le_of_ble_eq_true rfl) ?_
  show pm_J mX9_tell 2 47 LAYC none LAYC ρ 0 [some (pv_r 1), some (pv_i x1), some (pv_i x2), some (pv_i x3)] [] LAYC σ
  unfold fX9_tell at h
  refine pr_aload_n dX9_tell_0 rfl ?_
  refine pr_getR dX9_tell_1 lk_X9_11 lc_1 rfl ?_
  refine pr_iload_n dX9_tell_4 rfl ?_
  obtain ⟨g_1, h⟩ := pm_gs h
  refine pr_aald dX9_tell_5 lc_2 rfl g_1.1 (pm_row3 g_1) ?_
  refine pr_iload_n dX9_tell_6 rfl ?_
  refine pr_iload_n dX9_tell_7 rfl ?_
  obtain ⟨g_2, h⟩ := pm_gs h
  refine pr_iast dX9_tell_8 (lr_3 g_1) rfl g_2 ?_
  refine pr_aload_n dX9_tell_9 rfl ?_
  refine pr_getR dX9_tell_10 lk_X9_11 lc_1 rfl ?_
  refine pr_iload_n dX9_tell_13 rfl ?_
  obtain ⟨g_3, h⟩ := pm_gs h
  refine pr_aald dX9_tell_14 lc_2 rfl g_3.1 (pm_row3 g_3) ?_
  refine pr_aload_n dX9_tell_15 rfl ?_
  refine pr_getR dX9_tell_16 lk_X9_16 lc_1 rfl ?_
  refine pr_iload_n dX9_tell_19 rfl ?_
  obtain ⟨g_4, h⟩ := pm_gs h
  refine pr_aald dX9_tell_20 lc_6 rfl g_4.1 (pm_row3 g_4) ?_
  refine pr_getsN dX9_tell_21 st_0 lks_X9_25 ?_
  refine pr_iload_n dX9_tell_24 rfl ?_
  obtain ⟨g_5, h⟩ := pm_gs h
  refine pr_sald dX9_tell_25 st_0 rfl g_5 ?_
  obtain ⟨q6, e7, h⟩ := pm_bs h
  refine pr_callS (av := [pv_r (3 + Int.toNat (wr x2)), pv_r (7 + Int.toNat (wr x2)), pv_i (([20, 4, 0] : List Int).getD (Int.toNat (wr x2)) 0)]) (S := []) dX9_tell_26 mk_X9_29 rfl rfl (Nat.le_of_ble_eq_true rfl) (by decide) (by decide) (Or.inl rfl) (tmX9_reckon (lr_3 g_3) (lr_7 g_4) e7) ?_
  have h := Option.some.inj h
  subst h
  exact pr_vret dX9_tell_29 rfl
