def bdX12_span_45 (y1 : Int) (y2 : Int) (y3 : Int) (σ : pm_M) (z5 : Int) (z6 : Int) : Option ((Int × Int) ⊕ (Int × Int)) :=
  if (wr (60 * (σ 25 (Int.toNat 752)))) ≤ (wr z6) then (some (.inl (z5, z6))) else ((fX12_mouldOfSheet z6 σ).bind fun q6 => if (wr q6) = (wr y1) then ((fX12_isBy z6 y2 σ).bind fun q9 => if (wr q9) = 0 then (some (.inr (z5, (z6 + 1)))) else ((fX12_post (Int.tdiv (wr z6) 60) 3 σ).bind fun q12 => if (wr z5) < 0 then (some (.inr (q12, (z6 + 1)))) else (if (wr y3) = 0 then (if (wr z5) ≤ (wr q12) then (some (.inr (z5, (z6 + 1)))) else (some (.inr (q12, (z6 + 1))))) else (if (wr q12) ≤ (wr z5) then (some (.inr (z5, (z6 + 1)))) else (some (.inr (q12, (z6 + 1)))))))) else (some (.inr (z5, (z6 + 1)))))
set_option maxHeartbeats 4000000 in
set_option maxRecDepth 100000 in
theorem tbX12_span_45 {lay0 lay' : List pm_S} {r : Option pm_V} {σ' : pm_M} (y1 : Int) (y2 : Int) (y3 : Int) (σ : pm_M) : ∀ (a : Int × Int) (e : (Int × Int) ⊕ (Int × Int)), (fun a => bdX12_span_45 y1 y2 y3 σ a.1 a.2) a = some e → (∀ a, e = .inr a → (fun a => pm_J mX12_span 3 67 lay0 r lay' σ' 45 [some (pv_r 0), some (pv_i y1), some (pv_i y2), some (pv_i y3), none, some (pv_i a.1), some (pv_i a.2), none] [] LAYM σ) a) → (∀ a, e = .inl a → (fun a => pm_J mX12_span 3 67 lay0 r lay' σ' 132 [none, none, none, none, none, some (pv_i a.1), none, none] [] LAYM σ) a) → (fun a => pm_J mX12_span 3 67 lay0 r lay' σ' 45 [some (pv_r 0), some (pv_i y1), some (pv_i y2), some (pv_i y3), none, some (pv_i a.1), some (pv_i a.2), none] [] LAYM σ) a := by
  intro a e h hc hx
  obtain ⟨z5, z6⟩ := a
  have h : bdX12_span_45 y1 y2 y3 σ z5 z6 = some e := h
  unfold bdX12_span_45 at h
  show pm_J mX12_span 3 67 lay0 r lay' σ' 45 [some (pv_r 0), some (pv_i y1), some (pv_i y2), some (pv_i y3), none, some (pv_i z5), some (pv_i z6), none] [] LAYM σ
  refine pr_iload dX12_span_45 rfl ?_
  refine pr_bipush dX12_span_47 (by decide) ?_
  refine pr_aload_n dX12_span_49 rfl ?_
  refine pr_getR dX12_span_50 lk_X12_86 lm_0 rfl ?_
  refine pr_sipush dX12_span_53 (by decide) ?_
  refine pr_iald dX12_span_56 lm_25 (wr_eq (by decide) (by decide)) ⟨by decide, by decide⟩ ?_
  refine pr_imul dX12_span_57 ?_
  refine pr_icmp_ge (tgt := 132) dX12_span_58 rfl rfl (by decide) (fun c_5 => ?_) (fun c_5 => ?_)
  · have h := pm_pos c_5 h
    refine pr_weak (L2 := [none, none, none, none, none, some (pv_i z5), none, none]) ⟨Or.inl rfl, Or.inl rfl, Or.inl rfl, Or.inl rfl, Or.inl rfl, Or.inr rfl, Or.inl rfl, Or.inl rfl, trivial⟩ ?_
    exact hx (z5, z6) (Option.some.inj h).symm
  · have h := pm_ng c_5 h
    refine pr_aload_n dX12_span_61 rfl ?_
    refine pr_iload dX12_span_62 rfl ?_
    obtain ⟨q6, e7, h⟩ := pm_bs h
    refine pr_callV (As := [pv_i z6]) (S := []) (t := 0) dX12_span_64 mk_X12_221 lm_0 (ci := 12) (q := (RX12, TX12, 36)) rfl rfl rfl rfl (Nat.le_of_ble_eq_true rfl) (by decide) (by decide) (Or.inl rfl) (tmX12_mouldOfSheet e7) ?_
    refine pr_iload_n dX12_span_67 rfl ?_
    refine pr_icmp_ne (tgt := 126) dX12_span_68 rfl rfl (by decide) (fun c_8 => ?_) (fun c_8 => ?_)
    · have h := pm_ng c_8 h
      refine pr_iinc dX12_span_126 rfl (by decide) rfl ?_
      refine pr_goto (tgt := 45) dX12_span_129 (by decide) ?_
      refine pr_weak (L2 := [some (pv_r 0), some (pv_i y1), some (pv_i y2), some (pv_i y3), none, some (pv_i z5), some (pv_i (z6 + 1)), none]) ⟨Or.inr rfl, Or.inr rfl, Or.inr rfl, Or.inr rfl, Or.inl rfl, Or.inr rfl, Or.inr rfl, Or.inl rfl, trivial⟩ ?_
      exact hc (z5, (z6 + 1)) (Option.some.inj h).symm
    · have h := pm_pos c_8 h
      refine pr_aload_n dX12_span_71 rfl ?_
      refine pr_iload dX12_span_72 rfl ?_
      refine pr_iload_n dX12_span_74 rfl ?_
      obtain ⟨q9, e10, h⟩ := pm_bs h
      refine pr_callV (As := [pv_i z6, pv_i y2]) (S := []) (t := 0) dX12_span_75 mk_X12_218 lm_0 (ci := 12) (q := (RX12, TX12, 36)) rfl rfl rfl rfl (Nat.le_of_ble_eq_true rfl) (by decide) (by decide) (Or.inl rfl) (tmX12_isBy e10) ?_
      refine pr_if_ne (tgt := 84) dX12_span_78 rfl (by decide) (fun c_11 => ?_) (fun c_11 => ?_)
      · have h := pm_ng c_11 h
        refine pr_aload_n dX12_span_84 rfl ?_
        refine pr_iload dX12_span_85 rfl ?_
        refine pr_bipush dX12_span_87 (by decide) ?_
        refine pr_idiv dX12_span_89 rfl (wr_eq (by decide) (by decide)) (by decide) ?_
        refine pr_iconst dX12_span_90 ?_
        obtain ⟨q12, e13, h⟩ := pm_bs h
        refine pr_callV (As := [pv_i (Int.tdiv (wr z6) 60), pv_i 3]) (S := []) (t := 0) dX12_span_91 mk_X12_138 lm_0 (ci := 12) (q := (RX12, TX12, 36)) rfl rfl rfl rfl (Nat.le_of_ble_eq_true rfl) (by decide) (by decide) (Or.inl rfl) (tmX12_post e13) ?_
        refine pr_istore dX12_span_94 (by decide) rfl ?_
        refine pr_iload dX12_span_96 rfl ?_
        refine pr_if_lt (tgt := 122) dX12_span_98 rfl (by decide) (fun c_14 => ?_) (fun c_14 => ?_)
        · have h := pm_pos c_14 h
          refine pr_iload dX12_span_122 rfl ?_
          refine pr_istore dX12_span_124 (by decide) rfl ?_
          refine pr_iinc dX12_span_126 rfl (by decide) rfl ?_
          refine pr_goto (tgt := 45) dX12_span_129 (by decide) ?_
          refine pr_weak (L2 := [some (pv_r 0), some (pv_i y1), some (pv_i y2), some (pv_i y3), none, some (pv_i q12), some (pv_i (z6 + 1)), none]) ⟨Or.inr rfl, Or.inr rfl, Or.inr rfl, Or.inr rfl, Or.inl rfl, Or.inr rfl, Or.inr rfl, Or.inl rfl, trivial⟩ ?_
          exact hc (q12, (z6 + 1)) (Option.some.inj h).symm
        · have h := pm_ng c_14 h
          refine pr_iload_n dX12_span_101 rfl ?_
          refine pr_if_eq (tgt := 115) dX12_span_102 rfl (by decide) (fun c_15 => ?_) (fun c_15 => ?_)
          · have h := pm_pos c_15 h
            refine pr_iload dX12_span_115 rfl ?_
            refine pr_iload dX12_span_117 rfl ?_
            refine pr_icmp_ge (tgt := 126) dX12_span_119 rfl rfl (by decide) (fun c_16 => ?_) (fun c_16 => ?_)
            · have h := pm_pos c_16 h
              refine pr_iinc dX12_span_126 rfl (by decide) rfl ?_
              refine pr_goto (tgt := 45) dX12_span_129 (by decide) ?_
              refine pr_weak (L2 := [some (pv_r 0), some (pv_i y1), some (pv_i y2), some (pv_i y3), none, some (pv_i z5), some (pv_i (z6 + 1)), none]) ⟨Or.inr rfl, Or.inr rfl, Or.inr rfl, Or.inr rfl, Or.inl rfl, Or.inr rfl, Or.inr rfl, Or.inl rfl, trivial⟩ ?_
              exact hc (z5, (z6 + 1)) (Option.some.inj h).symm
            · have h := pm_ng c_16 h
              refine pr_iload dX12_span_122 rfl ?_
              refine pr_istore dX12_span_124 (by decide) rfl ?_
              refine pr_iinc dX12_span_126 rfl (by decide) rfl ?_
              refine pr_goto (tgt := 45) dX12_span_129 (by decide) ?_
              refine pr_weak (L2 := [some (pv_r 0), some (pv_i y1), some (pv_i y2), some (pv_i y3), none, some (pv_i q12), some (pv_i (z6 + 1)), none]) ⟨Or.inr rfl, Or.inr rfl, Or.inr rfl, Or.inr rfl, Or.inl rfl, Or.inr rfl, Or.inr rfl, Or.inl rfl, trivial⟩ ?_
              exact hc (q12, (z6 + 1)) (Option.some.inj h).symm
          · have h := pm_ng c_15 h
            refine pr_iload dX12_span_105 rfl ?_
            refine pr_iload dX12_span_107 rfl ?_
            refine pr_icmp_le (tgt := 126) dX12_span_109 rfl rfl (by decide) (fun c_17 => ?_) (fun c_17 => ?_)
            · have h := pm_pos c_17 h
              refine pr_iinc dX12_span_126 rfl (by decide) rfl ?_
              refine pr_goto (tgt := 45) dX12_span_129 (by decide) ?_
              refine pr_weak (L2 := [some (pv_r 0), some (pv_i y1), some (pv_i y2), some (pv_i y3), none, some (pv_i z5), some (pv_i (z6 + 1)), none]) ⟨Or.inr rfl, Or.inr rfl, Or.inr rfl, Or.inr rfl, Or.inl rfl, Or.inr rfl, Or.inr rfl, Or.inl rfl, trivial⟩ ?_
              exact hc (z5, (z6 + 1)) (Option.some.inj h).symm
            · have h := pm_ng c_17 h
              refine pr_goto (tgt := 122) dX12_span_112 (by decide) ?_
              refine pr_iload dX12_span_122 rfl ?_
              refine pr_istore dX12_span_124 (by decide) rfl ?_
              refine pr_iinc dX12_span_126 rfl (by decide) rfl ?_
              refine pr_goto (tgt := 45) dX12_span_129 (by decide) ?_
              refine pr_weak (L2 := [some (pv_r 0), some (pv_i y1), some (pv_i y2), some (pv_i y3), none, some (pv_i q12), some (pv_i (z6 + 1)), none]) ⟨Or.inr rfl, Or.inr rfl, Or.inr rfl, Or.inr rfl, Or.inl rfl, Or.inr rfl, Or.inr rfl, Or.inl rfl, trivial⟩ ?_
              exact hc (q12, (z6 + 1)) (Option.some.inj h).symm
      · have h := pm_pos c_11 h
        refine pr_goto (tgt := 126) dX12_span_81 (by decide) ?_
        refine pr_iinc dX12_span_126 rfl (by decide) rfl ?_
        refine pr_goto (tgt := 45) dX12_span_129 (by decide) ?_
        refine pr_weak (L2 := [some (pv_r 0), some (pv_i y1), some (pv_i y2), some (pv_i y3), none, some (pv_i z5), some (pv_i (z6 + 1)), none]) ⟨Or.inr rfl, Or.inr rfl, Or.inr rfl, Or.inr rfl, Or.inl rfl, Or.inr rfl, Or.inr rfl, Or.inl rfl, trivial⟩ ?_
        exact hc (z5, (z6 + 1)) (Option.some.inj h).symm
def jnX12_span_24 (w1 : Int) (w2 : Int) (w3 : Int) (u0 : Int) (σ : pm_M) : Option (Int × pm_M) :=
  if (wr u0) = 0 then ((pm_it (fun a => bdX12_span_45 w1 w2 w3 σ a.1 a.2) pm_fuel ((-9), 0)).bind fun v18 => some (v18.1, σ)) else ((fX12_refuse u0 σ).bind fun q20 => some (q20.1, q20.2))
set_option maxHeartbeats 4000000 in
set_option maxRecDepth 100000 in
theorem tjX12_span_24 {lay0 : List pm_S} {w1 : Int} {w2 : Int} {w3 : Int} {u0 : Int} {σ : pm_M} {ρ : Int × pm_M} (h : jnX12_span_24 w1 w2 w3 u0 σ = some ρ) : pm_J mX12_span 3 67 lay0 (some (pv_i ρ.1)) LAYM ρ.2 24 [some (pv_r 0), some (pv_i w1), some (pv_i w2), some (pv_i w3), none, none, none, none] [pv_i u0] LAYM σ := by
  unfold jnX12_span_24 at h
  refine pr_istore dX12_span_24 (by decide) rfl ?_
  refine pr_iload dX12_span_26 rfl ?_
  refine pr_if_eq (tgt := 38) dX12_span_28 rfl (by decide) (fun c_4 => ?_) (fun c_4 => ?_)
  · have h := pm_pos c_4 h
    refine pr_bipush dX12_span_38 (by decide) ?_
    refine pr_istore dX12_span_40 (by decide) rfl ?_
    refine pr_iconst dX12_span_42 ?_
    refine pr_istore dX12_span_43 (by decide) rfl ?_
    obtain ⟨v18, e19, h⟩ := pm_bs h
    refine pr_weak (L2 := [some (pv_r 0), some (pv_i w1), some (pv_i w2), some (pv_i w3), none, some (pv_i (-9)), some (pv_i 0), none]) ⟨Or.inr rfl, Or.inr rfl, Or.inr rfl, Or.inr rfl, Or.inl rfl, Or.inr rfl, Or.inr rfl, Or.inl rfl, trivial⟩ ?_
    refine pm_it_J (α := Int × Int) (β := Int × Int) (f := fun a => bdX12_span_45 w1 w2 w3 σ a.1 a.2) (P := fun a => pm_J mX12_span 3 67 lay0 (some (pv_i ρ.1)) LAYM ρ.2 45 [some (pv_r 0), some (pv_i w1), some (pv_i w2), some (pv_i w3), none, some (pv_i a.1), some (pv_i a.2), none] [] LAYM σ) (Rx := fun a => pm_J mX12_span 3 67 lay0 (some (pv_i ρ.1)) LAYM ρ.2 132 [none, none, none, none, none, some (pv_i a.1), none, none] [] LAYM σ) (tbX12_span_45 w1 w2 w3 σ) pm_fuel ((-9), 0) v18 e19 ?_
    show pm_J mX12_span 3 67 lay0 (some (pv_i ρ.1)) LAYM ρ.2 132 [none, none, none, none, none, some (pv_i v18.1), none, none] [] LAYM σ
    refine pr_iload dX12_span_132 rfl ?_
    have h := Option.some.inj h
    subst h
    exact pr_iret dX12_span_134 rfl
  · have h := pm_ng c_4 h
    refine pr_aload_n dX12_span_31 rfl ?_
    refine pr_iload dX12_span_32 rfl ?_
    obtain ⟨q20, e21, h⟩ := pm_bs h
    refine pr_callV (As := [pv_i u0]) (S := []) (t := 0) dX12_span_34 mk_X12_103 lm_0 (ci := 12) (q := (RX12, TX12, 36)) rfl rfl rfl rfl (Nat.le_of_ble_eq_true rfl) (by decide) (by decide) (Or.inl rfl) (tmX12_refuse e21) ?_
    have h := Option.some.inj h
    subst h
    exact pr_iret dX12_span_37 rfl
def fX12_span (x1 : Int) (x2 : Int) (x3 : Int) (σ : pm_M) : Option (Int × pm_M) :=
  (fX12_isIn x1 (2 * (σ 0 16))).bind fun q1 => if (wr q1) = 0 then (jnX12_span_24 x1 x2 x3 (-1) σ) else ((fX12_wrong x2 0 99).bind fun q22 => jnX12_span_24 x1 x2 x3 q22 σ)
set_option maxHeartbeats 4000000 in
set_option maxRecDepth 100000 in
theorem tmX12_span {x1 : Int} {x2 : Int} {x3 : Int} {σ : pm_M} {ρ : Int × pm_M} (h : fX12_span x1 x2 x3 σ = some ρ) : pm_C mX12_span 3 67 [pv_r 0, pv_i x1, pv_i x2, pv_i x3] LAYM σ (some (pv_i ρ.1)) LAYM ρ.2 := by
  refine pm_C.of (by decide) rfl (Nat.le_of_ble_eq_true rfl) ?_
  show pm_J mX12_span 3 67 LAYM (some (pv_i ρ.1)) LAYM ρ.2 0 [some (pv_r 0), some (pv_i x1), some (pv_i x2), some (pv_i x3), none, none, none, none] [] LAYM σ
  unfold fX12_span at h
  refine pr_iload_n dX12_span_0 rfl ?_
  refine pr_iconst dX12_span_1 ?_
  refine pr_aload_n dX12_span_2 rfl ?_
  refine pr_getI dX12_span_3 lk_X12_129 lm_0 rfl ?_
  refine pr_imul dX12_span_6 ?_
  obtain ⟨q1, e2, h⟩ := pm_bs h
  refine pr_callS (av := [pv_i x1, pv_i (2 * (σ 0 16))]) (S := []) dX12_span_7 mk_X12_95 rfl rfl (Nat.le_of_ble_eq_true rfl) (by decide) (by decide) (Or.inl rfl) (tmX12_isIn e2) ?_
  refine pr_if_eq (tgt := 23) dX12_span_10 rfl (by decide) (fun c_3 => ?_) (fun c_3 => ?_)
  · have h := pm_pos c_3 h
    refine pr_iconst dX12_span_23 ?_
    refine pr_weak (L2 := [some (pv_r 0), some (pv_i x1), some (pv_i x2), some (pv_i x3), none, none, none, none]) ⟨Or.inr rfl, Or.inr rfl, Or.inr rfl, Or.inr rfl, Or.inl rfl, Or.inl rfl, Or.inl rfl, Or.inl rfl, trivial⟩ ?_
    exact tjX12_span_24 h
  · have h := pm_ng c_3 h
    refine pr_iload_n dX12_span_13 rfl ?_
    refine pr_iconst dX12_span_14 ?_
    refine pr_bipush dX12_span_15 (by decide) ?_
    obtain ⟨q22, e23, h⟩ := pm_bs h
    refine pr_callS (av := [pv_i x2, pv_i 0, pv_i 99]) (S := []) dX12_span_17 mk_X12_99 rfl rfl (Nat.le_of_ble_eq_true rfl) (by decide) (by decide) (Or.inl rfl) (tmX12_wrong e23) ?_
    refine pr_goto (tgt := 24) dX12_span_20 (by decide) ?_
    refine pr_weak (L2 := [some (pv_r 0), some (pv_i x1), some (pv_i x2), some (pv_i x3), none, none, none, none]) ⟨Or.inr rfl, Or.inr rfl, Or.inr rfl, Or.inr rfl, Or.inl rfl, Or.inl rfl, Or.inl rfl, Or.inl rfl, trivial⟩ ?_
    exact tjX12_span_24 h
def fX12_heapOf (x1 : Int) (x2 : Int) (σ : pm_M) : Option (Int × pm_M) :=
  (fX12_isIn x1 (σ 0 15)).bind fun q1 => if (wr q1) = 0 then ((fX12_refuse (-1) σ).bind fun q15 => some (q15.1, q15.2)) else (if (wr x2) = 0 then (pm_g (0 ≤ (wr x1) ∧ (wr x1) < 40) (some ((σ 9 (Int.toNat (wr x1))), σ))) else (if (wr x2) = 1 then (pm_g (0 ≤ (wr (0 + x1)) ∧ (wr (0 + x1)) < 755) (some ((σ 25 (Int.toNat (wr (0 + x1)))), σ))) else (if (wr x2) = 2 then ((fX12_age x1 σ).bind fun q11 => some (q11, σ)) else (if (wr x2) = 3 then ((fX12_isRipe x1 σ).bind fun q8 => if (wr q8) = 0 then (some (0, σ)) else (some (1, σ))) else (if (wr x2) = 4 then (pm_g (0 ≤ (wr (40 + x1)) ∧ (wr (40 + x1)) < 755) (some ((σ 25 (Int.toNat (wr (40 + x1)))), σ))) else ((fX12_refuse (-2) σ).bind fun q4 => some (q4.1, q4.2)))))))
set_option maxHeartbeats 4000000 in
set_option maxRecDepth 100000 in
theorem tmX12_heapOf {x1 : Int} {x2 : Int} {σ : pm_M} {ρ : Int × pm_M} (h : fX12_heapOf x1 x2 σ = some ρ) : pm_C mX12_heapOf 2 42 [pv_r 0, pv_i x1, pv_i x2] LAYM σ (some (pv_i ρ.1)) LAYM ρ.2 := by
  refine pm_C.of (by decide) rfl (Nat.le_of_ble_eq_true rfl) ?_
  show pm_J mX12_heapOf 2 42 LAYM (some (pv_i ρ.1)) LAYM ρ.2 0 [some (pv_r 0), some (pv_i x1), some (pv_i x2)] [] LAYM σ
  unfold fX12_heapOf at h
  refine pr_iload_n dX12_heapOf_0 rfl ?_
  refine pr_aload_n dX12_heapOf_1 rfl ?_
  refine pr_getI dX12_heapOf_2 lk_X12_115 lm_0 rfl ?_
  obtain ⟨q1, e2, h⟩ := pm_bs h
  refine pr_callS (av := [pv_i x1, pv_i (σ 0 15)]) (S := []) dX12_heapOf_5 mk_X12_95 rfl rfl (Nat.le_of_ble_eq_true rfl) (by decide) (by decide) (Or.inl rfl) (tmX12_isIn e2) ?_
  refine pr_if_ne (tgt := 17) dX12_heapOf_8 rfl (by decide) (fun c_3 => ?_) (fun c_3 => ?_)
  · have h := pm_ng c_3 h
    refine pr_iload_n dX12_heapOf_17 rfl ?_
    by_cases c_6_0 : (wr x2) = 0
    · have h := pm_pos c_6_0 h
      refine pr_tsIn (j := 0) (tgt := 52) dX12_heapOf_18 rfl (c_6_0.trans (by decide)) (by decide) rfl (by decide) ?_
      refine pr_aload_n dX12_heapOf_52 rfl ?_
      refine pr_getR dX12_heapOf_53 lk_X12_34 lm_0 rfl ?_
      refine pr_iload_n dX12_heapOf_56 rfl ?_
      obtain ⟨g_14, h⟩ := pm_gs h
      refine pr_iald dX12_heapOf_57 lm_9 rfl g_14 ?_
      have h := Option.some.inj h
      subst h
      exact pr_iret dX12_heapOf_58 rfl
    · have h := pm_ng c_6_0 h
      by_cases c_6_1 : (wr x2) = 1
      · have h := pm_pos c_6_1 h
        refine pr_tsIn (j := 1) (tgt := 59) dX12_heapOf_18 rfl (c_6_1.trans (by decide)) (by decide) rfl (by decide) ?_
        refine pr_aload_n dX12_heapOf_59 rfl ?_
        refine pr_getR dX12_heapOf_60 lk_X12_86 lm_0 rfl ?_
        refine pr_iconst dX12_heapOf_63 ?_
        refine pr_iload_n dX12_heapOf_64 rfl ?_
        refine pr_iadd dX12_heapOf_65 ?_
        obtain ⟨g_13, h⟩ := pm_gs h
        refine pr_iald dX12_heapOf_66 lm_25 rfl g_13 ?_
        have h := Option.some.inj h
        subst h
        exact pr_iret dX12_heapOf_67 rfl
      · have h := pm_ng c_6_1 h
        by_cases c_6_2 : (wr x2) = 2
        · have h := pm_pos c_6_2 h
          refine pr_tsIn (j := 2) (tgt := 68) dX12_heapOf_18 rfl (c_6_2.trans (by decide)) (by decide) rfl (by decide) ?_
          refine pr_aload_n dX12_heapOf_68 rfl ?_
          refine pr_iload_n dX12_heapOf_69 rfl ?_
          obtain ⟨q11, e12, h⟩ := pm_bs h
          refine pr_callV (As := [pv_i x1]) (S := []) (t := 0) dX12_heapOf_70 mk_X12_118 lm_0 (ci := 12) (q := (RX12, TX12, 36)) rfl rfl rfl rfl (Nat.le_of_ble_eq_true rfl) (by decide) (by decide) (Or.inl rfl) (tmX12_age e12) ?_
          have h := Option.some.inj h
          subst h
          exact pr_iret dX12_heapOf_73 rfl
        · have h := pm_ng c_6_2 h
          by_cases c_6_3 : (wr x2) = 3
          · have h := pm_pos c_6_3 h
            refine pr_tsIn (j := 3) (tgt := 74) dX12_heapOf_18 rfl (c_6_3.trans (by decide)) (by decide) rfl (by decide) ?_
            refine pr_aload_n dX12_heapOf_74 rfl ?_
            refine pr_iload_n dX12_heapOf_75 rfl ?_
            obtain ⟨q8, e9, h⟩ := pm_bs h
            refine pr_callV (As := [pv_i x1]) (S := []) (t := 0) dX12_heapOf_76 mk_X12_121 lm_0 (ci := 12) (q := (RX12, TX12, 36)) rfl rfl rfl rfl (Nat.le_of_ble_eq_true rfl) (by decide) (by decide) (Or.inl rfl) (tmX12_isRipe e9) ?_
            refine pr_if_eq (tgt := 86) dX12_heapOf_79 rfl (by decide) (fun c_10 => ?_) (fun c_10 => ?_)
            · have h := pm_pos c_10 h
              refine pr_iconst dX12_heapOf_86 ?_
              have h := Option.some.inj h
              subst h
              exact pr_iret dX12_heapOf_87 rfl
            · have h := pm_ng c_10 h
              refine pr_iconst dX12_heapOf_82 ?_
              refine pr_goto (tgt := 87) dX12_heapOf_83 (by decide) ?_
              have h := Option.some.inj h
              subst h
              exact pr_iret dX12_heapOf_87 rfl
          · have h := pm_ng c_6_3 h
            by_cases c_6_4 : (wr x2) = 4
            · have h := pm_pos c_6_4 h
              refine pr_tsIn (j := 4) (tgt := 88) dX12_heapOf_18 rfl (c_6_4.trans (by decide)) (by decide) rfl (by decide) ?_
              refine pr_aload_n dX12_heapOf_88 rfl ?_
              refine pr_getR dX12_heapOf_89 lk_X12_86 lm_0 rfl ?_
              refine pr_bipush dX12_heapOf_92 (by decide) ?_
              refine pr_iload_n dX12_heapOf_94 rfl ?_
              refine pr_iadd dX12_heapOf_95 ?_
              obtain ⟨g_7, h⟩ := pm_gs h
              refine pr_iald dX12_heapOf_96 lm_25 rfl g_7 ?_
              have h := Option.some.inj h
              subst h
              exact pr_iret dX12_heapOf_97 rfl
            · have h := pm_ng c_6_4 h
              refine pr_tsOut (tgt := 98) dX12_heapOf_18 rfl (by omega) (by decide) ?_
              refine pr_aload_n dX12_heapOf_98 rfl ?_
              refine pr_bipush dX12_heapOf_99 (by decide) ?_
              obtain ⟨q4, e5, h⟩ := pm_bs h
              refine pr_callV (As := [pv_i (-2)]) (S := []) (t := 0) dX12_heapOf_101 mk_X12_103 lm_0 (ci := 12) (q := (RX12, TX12, 36)) rfl rfl rfl rfl (Nat.le_of_ble_eq_true rfl) (by decide) (by decide) (Or.inl rfl) (tmX12_refuse e5) ?_
              have h := Option.some.inj h
              subst h
              exact pr_iret dX12_heapOf_104 rfl
  · have h := pm_pos c_3 h
    refine pr_aload_n dX12_heapOf_11 rfl ?_
    refine pr_iconst dX12_heapOf_12 ?_
    obtain ⟨q15, e16, h⟩ := pm_bs h
    refine pr_callV (As := [pv_i (-1)]) (S := []) (t := 0) dX12_heapOf_13 mk_X12_103 lm_0 (ci := 12) (q := (RX12, TX12, 36)) rfl rfl rfl rfl (Nat.le_of_ble_eq_true rfl) (by decide) (by decide) (Or.inl rfl) (tmX12_refuse e16) ?_
    have h := Option.some.inj h
    subst h
    exact pr_iret dX12_heapOf_16 rfl
def fX12_beaterOf (x1 : Int) (x2 : Int) (σ : pm_M) : Option (Int × pm_M) :=
  (fX12_isIn x1 4).bind fun q1 => if (wr q1) = 0 then ((fX12_refuse (-1) σ).bind fun q18 => some (q18.1, q18.2)) else ((fX12_isIn x2 4).bind fun q4 => if (wr q4) = 0 then ((fX12_refuse (-2) σ).bind fun q16 => some (q16.1, q16.2)) else (if (wr x2) = 1 then (pm_g (0 ≤ (wr (80 + (4 * x1))) ∧ (wr (80 + (4 * x1))) < 755) (if (wr (σ 25 (Int.toNat (wr (80 + (4 * x1)))))) = 0 then (some ((-9), σ)) else (pm_g (0 ≤ (wr ((80 + (4 * x1)) + 1)) ∧ (wr ((80 + (4 * x1)) + 1)) < 755) (some ((σ 25 (Int.toNat (wr ((80 + (4 * x1)) + 1)))), σ))))) else (if (wr x2) = 2 then (pm_g (0 ≤ (wr (80 + (4 * x1))) ∧ (wr (80 + (4 * x1))) < 755) (if (wr (σ 25 (Int.toNat (wr (80 + (4 * x1)))))) = 0 then (some (0, σ)) else (pm_g (0 ≤ (wr ((80 + (4 * x1)) + x2)) ∧ (wr ((80 + (4 * x1)) + x2)) < 755) (some ((σ 25 (Int.toNat (wr ((80 + (4 * x1)) + x2)))), σ))))) else (pm_g (0 ≤ (wr ((80 + (4 * x1)) + x2)) ∧ (wr ((80 + (4 * x1)) + x2)) < 755) (some ((σ 25 (Int.toNat (wr ((80 + (4 * x1)) + x2)))), σ))))))
set_option maxHeartbeats 4000000 in
set_option maxRecDepth 100000 in
theorem tmX12_beaterOf {x1 : Int} {x2 : Int} {σ : pm_M} {ρ : Int × pm_M} (h : fX12_beaterOf x1 x2 σ = some ρ) : pm_C mX12_beaterOf 1 21 [pv_r 0, pv_i x1, pv_i x2] LAYM σ (some (pv_i ρ.1)) LAYM ρ.2 := by
  refine pm_C.of (by decide) rfl (Nat.le_of_ble_eq_true rfl) ?_
  show pm_J mX12_beaterOf 1 21 LAYM (some (pv_i ρ.1)) LAYM ρ.2 0 [some (pv_r 0), some (pv_i x1), some (pv_i x2), none] [] LAYM σ
  unfold fX12_beaterOf at h
  refine pr_iload_n dX12_beaterOf_0 rfl ?_
  refine pr_iconst dX12_beaterOf_1 ?_
  obtain ⟨q1, e2, h⟩ := pm_bs h
  refine pr_callS (av := [pv_i x1, pv_i 4]) (S := []) dX12_beaterOf_2 mk_X12_95 rfl rfl (Nat.le_of_ble_eq_true rfl) (by decide) (by decide) (Or.inl rfl) (tmX12_isIn e2) ?_
  refine pr_if_ne (tgt := 14) dX12_beaterOf_5 rfl (by decide) (fun c_3 => ?_) (fun c_3 => ?_)
  · have h := pm_ng c_3 h
    refine pr_iload_n dX12_beaterOf_14 rfl ?_
    refine pr_iconst dX12_beaterOf_15 ?_
    obtain ⟨q4, e5, h⟩ := pm_bs h
    refine pr_callS (av := [pv_i x2, pv_i 4]) (S := []) dX12_beaterOf_16 mk_X12_95 rfl rfl (Nat.le_of_ble_eq_true rfl) (by decide) (by decide) (Or.inl rfl) (tmX12_isIn e5) ?_
    refine pr_if_ne (tgt := 29) dX12_beaterOf_19 rfl (by decide) (fun c_6 => ?_) (fun c_6 => ?_)
    · have h := pm_ng c_6 h
      refine pr_bipush dX12_beaterOf_29 (by decide) ?_
      refine pr_iconst dX12_beaterOf_31 ?_
      refine pr_iload_n dX12_beaterOf_32 rfl ?_
      refine pr_imul dX12_beaterOf_33 ?_
      refine pr_iadd dX12_beaterOf_34 ?_
      refine pr_istore_n dX12_beaterOf_35 (by decide) rfl ?_
      refine pr_iload_n dX12_beaterOf_36 rfl ?_
      refine pr_iconst dX12_beaterOf_37 ?_
      refine pr_icmp_ne (tgt := 64) dX12_beaterOf_38 rfl (wr_eq (by decide) (by decide)) (by decide) (fun c_7 => ?_) (fun c_7 => ?_)
      · have h := pm_ng c_7 h
        refine pr_iload_n dX12_beaterOf_64 rfl ?_
        refine pr_iconst dX12_beaterOf_65 ?_
        refine pr_icmp_ne (tgt := 82) dX12_beaterOf_66 rfl (wr_eq (by decide) (by decide)) (by decide) (fun c_8 => ?_) (fun c_8 => ?_)
        · have h := pm_ng c_8 h
          refine pr_aload_n dX12_beaterOf_82 rfl ?_
          refine pr_getR dX12_beaterOf_83 lk_X12_86 lm_0 rfl ?_
          refine pr_iload_n dX12_beaterOf_86 rfl ?_
          refine pr_iload_n dX12_beaterOf_87 rfl ?_
          refine pr_iadd dX12_beaterOf_88 ?_
          obtain ⟨g_9, h⟩ := pm_gs h
          refine pr_iald dX12_beaterOf_89 lm_25 rfl g_9 ?_
          have h := Option.some.inj h
          subst h
          exact pr_iret dX12_beaterOf_90 rfl
        · have h := pm_pos c_8 h
          refine pr_aload_n dX12_beaterOf_69 rfl ?_
          refine pr_getR dX12_beaterOf_70 lk_X12_86 lm_0 rfl ?_
          refine pr_iload_n dX12_beaterOf_73 rfl ?_
          obtain ⟨g_10, h⟩ := pm_gs h
          refine pr_iald dX12_beaterOf_74 lm_25 rfl g_10 ?_
          refine pr_if_ne (tgt := 82) dX12_beaterOf_75 rfl (by decide) (fun c_11 => ?_) (fun c_11 => ?_)
          · have h := pm_ng c_11 h
            refine pr_aload_n dX12_beaterOf_82 rfl ?_
            refine pr_getR dX12_beaterOf_83 lk_X12_86 lm_0 rfl ?_
            refine pr_iload_n dX12_beaterOf_86 rfl ?_
            refine pr_iload_n dX12_beaterOf_87 rfl ?_
            refine pr_iadd dX12_beaterOf_88 ?_
            obtain ⟨g_12, h⟩ := pm_gs h
            refine pr_iald dX12_beaterOf_89 lm_25 rfl g_12 ?_
            have h := Option.some.inj h
            subst h
            exact pr_iret dX12_beaterOf_90 rfl
          · have h := pm_pos c_11 h
            refine pr_iconst dX12_beaterOf_78 ?_
            refine pr_goto (tgt := 90) dX12_beaterOf_79 (by decide) ?_
            have h := Option.some.inj h
            subst h
            exact pr_iret dX12_beaterOf_90 rfl
      · have h := pm_pos c_7 h
        refine pr_aload_n dX12_beaterOf_41 rfl ?_
        refine pr_getR dX12_beaterOf_42 lk_X12_86 lm_0 rfl ?_
        refine pr_iload_n dX12_beaterOf_45 rfl ?_
        obtain ⟨g_13, h⟩ := pm_gs h
        refine pr_iald dX12_beaterOf_46 lm_25 rfl g_13 ?_
        refine pr_if_ne (tgt := 55) dX12_beaterOf_47 rfl (by decide) (fun c_14 => ?_) (fun c_14 => ?_)
        · have h := pm_ng c_14 h
          refine pr_aload_n dX12_beaterOf_55 rfl ?_
          refine pr_getR dX12_beaterOf_56 lk_X12_86 lm_0 rfl ?_
          refine pr_iload_n dX12_beaterOf_59 rfl ?_
          refine pr_iconst dX12_beaterOf_60 ?_
          refine pr_iadd dX12_beaterOf_61 ?_
          obtain ⟨g_15, h⟩ := pm_gs h
          refine pr_iald dX12_beaterOf_62 lm_25 rfl g_15 ?_
          have h := Option.some.inj h
          subst h
          exact pr_iret dX12_beaterOf_63 rfl
        · have h := pm_pos c_14 h
          refine pr_bipush dX12_beaterOf_50 (by decide) ?_
          refine pr_goto (tgt := 63) dX12_beaterOf_52 (by decide) ?_
          have h := Option.some.inj h
          subst h
          exact pr_iret dX12_beaterOf_63 rfl
    · have h := pm_pos c_6 h
      refine pr_aload_n dX12_beaterOf_22 rfl ?_
      refine pr_bipush dX12_beaterOf_23 (by decide) ?_
      obtain ⟨q16, e17, h⟩ := pm_bs h
      refine pr_callV (As := [pv_i (-2)]) (S := []) (t := 0) dX12_beaterOf_25 mk_X12_103 lm_0 (ci := 12) (q := (RX12, TX12, 36)) rfl rfl rfl rfl (Nat.le_of_ble_eq_true rfl) (by decide) (by decide) (Or.inl rfl) (tmX12_refuse e17) ?_
      have h := Option.some.inj h
      subst h
      exact pr_iret dX12_beaterOf_28 rfl
  · have h := pm_pos c_3 h
    refine pr_aload_n dX12_beaterOf_8 rfl ?_
    refine pr_iconst dX12_beaterOf_9 ?_
    obtain ⟨q18, e19, h⟩ := pm_bs h
    refine pr_callV (As := [pv_i (-1)]) (S := []) (t := 0) dX12_beaterOf_10 mk_X12_103 lm_0 (ci := 12) (q := (RX12, TX12, 36)) rfl rfl rfl rfl (Nat.le_of_ble_eq_true rfl) (by decide) (by decide) (Or.inl rfl) (tmX12_refuse e19) ?_
    have h := Option.some.inj h
    subst h
    exact pr_iret dX12_beaterOf_13 rfl
