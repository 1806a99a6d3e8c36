/-! ===== an hour: the vats ===== -/
theorem pu_same {σ : pm_M} {c j : Nat} {x : Int} (h : x = σ c j) : pm_up σ c j x = σ := by
  funext c' j'
  by_cases e : c' = c ∧ j' = j
  · rw [pu_eq e, e.1, e.2, h]
  · exact pu_ne (by omega)
section VW
variable {b v : Nat} {B : Int} {σC σM : pm_M}
theorem e_can (I : V_I b B σC σM) (hv : v < 3) (hpr : 0 ≤ σC (b + 23) v) : ∃ s : Int, (s = 0 ∨ s = 1) ∧ fX8_canMake b v σC = some s ∧ fX12_hasPulp v σM = some s ∧ (s = 1 → σC (b + 11) 8 < 80) := by
  obtain ⟨t1, t3, t4, t5, tB, tM⟩ := I
  obtain ⟨g1, ⟨g2, g2a, g2b⟩, ⟨g3, g3a, g3b⟩, g4, g5⟩ := v_fact t3 t5 hv
  obtain ⟨n1, n2, n3, n4⟩ := id t1
  obtain ⟨u1, u2, u3, u4, u5, u6⟩ := id t3
  obtain ⟨p1, p2, p3, p4, p5, -⟩ := id t4
  obtain ⟨p, hp⟩ := Int.eq_ofNat_of_zero_le hpr
  obtain ⟨k, hk⟩ := Int.eq_ofNat_of_zero_le g2a
  have hpp : (p : Int) < σC (b + 7) 3 := by
    obtain ⟨x1, -⟩ := t5.1 v hv
    omega
  have hw := u4 p (by omega)
  have hk' : σM 15 v = k := by omega
  have hp' : σM 14 v = p := by omega
  have nk := n4 k (by omega)
  have i2 : Int.toNat (96 + (k : Int)) = 96 + k := by omega
  have p1' : σM 25 (Int.toNat 752) = σC (b + 11) 8 := p1.symm
  unfold fX8_canMake fX12_hasPulp
  by_cases c1 : 80 ≤ σC (b + 11) 8
  · refine ⟨0, Or.inl rfl, ?_, ?_, fun q => by omega⟩
    · simp (disch := omega) only [wr_eq, if_pos, if_true]
    · simp (disch := omega) only [p1', wr_eq, if_pos, if_true]
  · by_cases c2 : wr (σC (b + 1) k) < σC (b + 8) p
    · refine ⟨0, Or.inl rfl, ?_, ?_, fun q => by omega⟩
      · simp (disch := omega) only [hp, hk, wr_eq, if_neg, if_false, pm_gt, Int.toNat_natCast, if_pos c2]
      · simp (disch := omega) only [p1', hp', hk', wr_eq, if_neg, if_false, pm_gt, Int.toNat_natCast, i2, ← nk, ← hw.1, if_pos c2]
    · refine ⟨1, Or.inr rfl, ?_, ?_, fun q => by omega⟩
      · simp (disch := omega) only [hp, hk, wr_eq, if_neg, if_false, pm_gt, Int.toNat_natCast, if_neg c2]
      · simp (disch := omega) only [p1', hp', hk', wr_eq, if_neg, if_false, pm_gt, Int.toNat_natCast, i2, ← nk, ← hw.1, if_neg c2]
theorem V_F_b {σC0 σM0 : pm_M} (h : V_F b σC0 σM0 σC σM) : σC b = σC0 b ∧ σC (b + 7) = σC0 (b + 7) ∧ σC (b + 23) = σC0 (b + 23) := ⟨h.1 b (by omega) (by omega) (by omega) (by omega) (by omega) (by omega) (by omega) (by omega) (by omega) (by omega) (by omega), h.1 _ (by omega) (by omega) (by omega) (by omega) (by omega) (by omega) (by omega) (by omega) (by omega) (by omega) (by omega), h.1 _ (by omega) (by omega) (by omega) (by omega) (by omega) (by omega) (by omega) (by omega) (by omega) (by omega) (by omega)⟩
set_option maxHeartbeats 8000000 in
theorem h_sheets {y2 : Int} (I : V_I b B σC σM) (hv : v < 3) (hpr : 0 ≤ σC (b + 23) v) (hB : B + 20 ≤ 60 * σC b 7) : ∃ (z : Int) (σC' σM' : pm_M), fX8_makeSheets b v (σC b 7) σC = some σC' ∧ pm_it (fun a : Int × pm_M => bdX12_works_182 y2 v a.1 a.2) pm_fuel (0, σM) = some (z, σM') ∧ V_I b (B + 20) σC' σM' ∧ V_F b σC σM σC' σM' := by
  unfold fX8_makeSheets
  obtain ⟨y, y', e1, e2, hQ⟩ := pm_it_2 (f := fun a : Int × pm_M => bdX8_makeSheets_2 b v (σC b 7) a.1 a.2) (g := fun a : Int × pm_M => bdX12_works_182 y2 v a.1 a.2)
    (fun m a a' => (∃ z : Nat, a.1 = z ∧ a'.1 = z ∧ z ≤ 20 ∧ m = 20 - z ∧ V_I b (B + z) a.2 a'.2) ∧ V_F b σC σM a.2 a'.2)
    (fun y y' => V_I b (B + 20) y.2 y'.2 ∧ V_F b σC σM y.2 y'.2) (by
      rintro m ⟨z0, σ⟩ ⟨z0', τ⟩ ⟨⟨z, hz, hz', hle, hm, hI⟩, hF⟩
      dsimp only at hz hz' hI hF ⊢
      subst hz hz'
      obtain ⟨f0, f7, f23⟩ := V_F_b hF
      have up : V_I b (B + 20) σ τ := ⟨hI.1, hI.2.1, hI.2.2.1, hI.2.2.2.1, fun i hi => by have := hI.2.2.2.2.1 i hi; omega, hI.2.2.2.2.2⟩
      by_cases c : z = 20
      · subst c
        refine Or.inl ⟨(((20 : Nat) : Int), σ), (((20 : Nat) : Int), τ), ?_, ?_, up, hF⟩
        · unfold bdX8_makeSheets_2
          simp (disch := omega) only [wr_eq, if_pos, if_true]
        · unfold bdX12_works_182
          simp (disch := omega) only [wr_eq, if_pos, if_true]
      · have hpr' : 0 ≤ σ (b + 23) v := by rw [f23]; exact hpr
        obtain ⟨s, hs, s1, s2, s3⟩ := e_can hI hv hpr'
        rcases hs with rfl | rfl
        · refine Or.inl ⟨((z : Int), σ), ((z : Int), τ), ?_, ?_, up, hF⟩
          · unfold bdX8_makeSheets_2
            simp (disch := omega) only [wr_eq, if_neg, if_pos, if_true, if_false, s1, Option.bind_some]
          · unfold bdX12_works_182
            simp (disch := omega) only [wr_eq, if_neg, if_pos, if_true, if_false, s2, Option.bind_some]
        · obtain ⟨σ', τ', k1, k2, k3, k4⟩ := h_sheet hI hv hpr' (s3 rfl) (by rw [f0]; omega) (z : Int)
          refine Or.inr ⟨((z : Int) + 1, σ'), ((z : Int) + 1, τ'), m - 1, ?_, ?_, by omega, ⟨z + 1, by simp, by simp, by omega, by omega, ?_⟩, V_F_trans hF k4⟩
          · rw [f0] at k1
            unfold bdX8_makeSheets_2
            rw [s1, Option.bind_some, if_neg (by rw [wr_eq (by omega) (by omega)]; omega), if_neg (by decide)]
            exact k1
          · unfold bdX12_works_182
            simp (disch := omega) only [wr_eq, if_neg, if_false, s2, Option.bind_some, k2]
          · have e : B + ((z + 1 : Nat) : Int) = B + z + 1 := by omega
            rw [e]
            exact k3) pm_fuel 20 (0, σC) (0, σM)
    ⟨⟨0, rfl, rfl, by omega, rfl, by rw [show B + ((0 : Nat) : Int) = B by omega]; exact I⟩, V_F_refl⟩ (pm_fl (by decide))
  rw [e1, Option.bind_some]
  exact ⟨y'.1, y.2, y'.2, rfl, e2, hQ.1, hQ.2⟩
/-- an idle hour of a vat, both sides -/
theorem V_idle {x : Int} (I : V_I b B σC σM) (hv : v < 3) (hx : x = σC (b + 26) v + 1) : V_I b B (pm_up σC (b + 26) v x) (pm_up σM 25 (106 + 2 * v) x) ∧ V_F b σC σM (pm_up σC (b + 26) v x) (pm_up σM 25 (106 + 2 * v) x) := by
  obtain ⟨t1, t3, t4, t5, tB, tM⟩ := I
  refine ⟨⟨?_, ?_, ?_, ?_, ?_, ?_⟩, ?_⟩
  · exact T_num_cg t1 (pu_ne (by omega)) (fun i _ => pu_ne (by omega)) (pu_ne (by omega)) (fun j _ _ => pu_ne (by omega))
  · exact T_mou_cg t3 (pu_ne (by omega)) (fun k _ _ => pu_o (by omega)) (pu_ne (by omega)) (pu_o (by omega))
  · exact T_pos_cg t4 (pu_ne (by omega)) (pu_ne (by omega)) (pu_o (by omega)) (fun k _ _ => pu_o (by omega)) (pu_ne (by omega)) (pu_ne (by omega)) (fun j _ _ => pu_ne (by omega))
  · obtain ⟨v1, v2, v3⟩ := t5
    unfold T_vat
    simp (disch := omega) only [pu_o]
    refine ⟨fun u hu => ?_, v2, by rw [pu_ne (by omega)]; exact v3⟩
    obtain ⟨x1, x2, x3, x7⟩ := v1 u hu
    rw [pu_ne (show 25 ≠ 25 ∨ 105 + 2 * u ≠ 106 + 2 * v by omega)]
    refine ⟨x1, x2, x3, ?_⟩
    by_cases e : u = v
    · rw [pu_eq ⟨rfl, e⟩, pu_eq ⟨rfl, by omega⟩]
    · rw [pu_ne (Or.inr e), pu_ne (by omega)]; exact x7
  · intro i hi
    rw [pu_ne (by omega)]
    exact tB i hi
  · rcases tM with ⟨rfl, h1, h2, h3⟩ | h
    · exact Or.inl ⟨rfl, h1, h2, h3⟩
    · exact Or.inr (by rw [pu_ne (by omega)]; exact h)
  · exact ⟨fun c _ _ _ _ _ _ _ _ _ h10 _ => pu_o h10, fun c h1 _ _ _ _ => pu_o h1, fun _ c h1 => pu_o h1, fun j hj => pu_ne (by omega)⟩
set_option maxHeartbeats 8000000 in
theorem h_vats {w : Int} (hw : 0 ≤ w ∧ w ≤ 60) (I : V_I b B σC σM) (hB : B + 60 ≤ 60 * σC b 7) : ∃ (w' z : Int) (σC' σM' : pm_M), fX8_work b w (σC b 7) σC = some σC' ∧ pm_it (fun a : Int × Int × pm_M => bdX12_works_126 a.1 a.2.1 a.2.2) pm_fuel (w, 0, σM) = some (w', z, σM') ∧ V_I b (B + 60) σC' σM' ∧ V_F b σC σM σC' σM' := by
  unfold fX8_work
  obtain ⟨y, y', e1, e2, hQ⟩ := pm_it_2 (f := fun a : Int × Int × pm_M => bdX8_work_5 b (σC b 7) a.1 a.2.1 a.2.2) (g := fun a : Int × Int × pm_M => bdX12_works_126 a.1 a.2.1 a.2.2)
    (fun m a a' => a.1 = a'.1 ∧ (0 ≤ a.1 ∧ a.1 ≤ 60) ∧ (∃ z : Nat, a.2.1 = z ∧ a'.2.1 = z ∧ z ≤ 3 ∧ m = 3 - z ∧ V_I b (B + 20 * z) a.2.2 a'.2.2) ∧ V_F b σC σM a.2.2 a'.2.2)
    (fun y y' => V_I b (B + 60) y.2.2 y'.2.2 ∧ V_F b σC σM y.2.2 y'.2.2) (by
      rintro m ⟨k, z0, σ⟩ ⟨k', z0', τ⟩ ⟨hk, hk2, ⟨z, hz, hz', hle, hm, hI⟩, hF⟩
      dsimp only at hk hk2 hz hz' hI hF ⊢
      subst hk hz hz'
      obtain ⟨f0, f7, f23⟩ := V_F_b hF
      have up : ∀ σ τ, V_I b (B + 20 * z) σ τ → z < 3 → V_I b (B + 20 * ((z + 1 : Nat) : Int)) σ τ := fun σ τ hI _ => ⟨hI.1, hI.2.1, hI.2.2.1, hI.2.2.2.1, fun i hi => by have := hI.2.2.2.2.1 i hi; omega, hI.2.2.2.2.2⟩
      by_cases c : z = 3
      · subst c
        refine Or.inl ⟨(k, ((3 : Nat) : Int), σ), (k, ((3 : Nat) : Int), τ), ?_, ?_, hI, hF⟩
        · unfold bdX8_work_5
          simp (disch := omega) only [wr_eq, if_pos, if_true]
        · unfold bdX12_works_126
          simp (disch := omega) only [wr_eq, if_pos, if_true]
      · have hv : z < 3 := by omega
        obtain ⟨g1, ⟨g2, g2a, g2b⟩, ⟨g3, g3a, g3b⟩, g4, g5⟩ := v_fact hI.2.1 hI.2.2.2.1 hv
        have i6 : Int.toNat (105 + 2 * (z : Int) + 1) = 106 + 2 * z := by omega
        by_cases c1 : σ (b + 23) z = -9
        · refine Or.inr ⟨(k, (z : Int) + 1, σ), (k, (z : Int) + 1, τ), m - 1, ?_, ?_, by omega, rfl, hk2, ⟨z + 1, by simp, by simp, by omega, by omega, up _ _ hI hv⟩, hF⟩
          · unfold bdX8_work_5
            simp (disch := omega) only [wr_eq, if_neg, if_pos, if_true, if_false, pm_gt, Int.toNat_natCast]
          · unfold bdX12_works_126
            simp (disch := omega) only [wr_eq, if_neg, if_pos, if_true, if_false, pm_gt, Int.toNat_natCast]
        · have hpr : 0 ≤ σ (b + 23) z := by omega
          obtain ⟨s, hs, s1, s2, s3⟩ := e_can hI hv hpr
          obtain ⟨d1, d2⟩ := V_idle hI hv rfl
          by_cases c2 : k < 2
          · refine Or.inr ⟨(k, (z : Int) + 1, pm_up σ (b + 26) z (σ (b + 26) z + 1)), (k, (z : Int) + 1, pm_up τ 25 (106 + 2 * z) (σ (b + 26) z + 1)), m - 1, ?_, ?_, by omega, rfl, hk2, ⟨z + 1, by simp, by simp, by omega, by omega, up _ _ d1 hv⟩, V_F_trans hF d2⟩
            · unfold bdX8_work_5 jnX8_work_53l5
              simp (disch := omega) only [wr_eq, if_neg, if_pos, if_true, if_false, pm_gt, Int.toNat_natCast]
            · unfold bdX12_works_126 jnX12_works_156l126
              simp (disch := omega) only [wr_eq, if_neg, if_pos, if_true, if_false, pm_gt, Int.toNat_natCast, i6, ← g5]
          · rcases hs with rfl | rfl
            · refine Or.inr ⟨(k, (z : Int) + 1, pm_up σ (b + 26) z (σ (b + 26) z + 1)), (k, (z : Int) + 1, pm_up τ 25 (106 + 2 * z) (σ (b + 26) z + 1)), m - 1, ?_, ?_, by omega, rfl, hk2, ⟨z + 1, by simp, by simp, by omega, by omega, up _ _ d1 hv⟩, V_F_trans hF d2⟩
              · unfold bdX8_work_5 jnX8_work_53l5
                simp (disch := omega) only [wr_eq, if_neg, if_pos, if_true, if_false, pm_gt, Int.toNat_natCast, s1, Option.bind_some]
              · unfold bdX12_works_126 jnX12_works_156l126
                simp (disch := omega) only [wr_eq, if_neg, if_pos, if_true, if_false, pm_gt, Int.toNat_natCast, i6, ← g5, s2, Option.bind_some]
            · obtain ⟨x, σ', τ', k1, k2, k3, k4⟩ := h_sheets (y2 := k + (-2)) hI hv hpr (by rw [f0]; omega)
              rw [f0] at k1
              refine Or.inr ⟨(k + (-2), (z : Int) + 1, σ'), (k + (-2), (z : Int) + 1, τ'), m - 1, ?_, ?_, by omega, rfl, by dsimp only; omega, ⟨z + 1, by simp, by simp, by omega, by omega, ?_⟩, V_F_trans hF k4⟩
              · unfold bdX8_work_5
                simp (disch := omega) only [wr_eq, if_neg, if_pos, if_true, if_false, pm_gt, Int.toNat_natCast, s1, Option.bind_some, k1]
              · unfold bdX12_works_126
                simp (disch := omega) only [wr_eq, if_neg, if_pos, if_true, if_false, pm_gt, Int.toNat_natCast, s2, Option.bind_some, k2]
              · dsimp only
                rw [show B + 20 * ((z + 1 : Nat) : Int) = B + 20 * z + 20 by omega]
                exact k3) pm_fuel 3 (w, 0, σC) (w, 0, σM)
    ⟨rfl, hw, ⟨0, rfl, rfl, by omega, rfl, by rw [show B + 20 * ((0 : Nat) : Int) = B by omega]; exact I⟩, V_F_refl⟩ (pm_fl (by decide))
  rw [e1, Option.bind_some]
  exact ⟨y'.1, y'.2.1, y.2.2, y'.2.2, rfl, e2, hQ.1, hQ.2⟩
set_option maxHeartbeats 8000000 in
/-- with frost the vats stand still -/
theorem h_frost {y1 y2 : Int} (I : V_I b B σC σM) : ∃ (z : Int) (σC' σM' : pm_M), fX8_work b 0 (σC b 7) σC = some σC' ∧ pm_it (fun a : Int × pm_M => bdX12_hour_46 y1 y2 a.1 a.2) pm_fuel (0, σM) = some (z, σM') ∧ V_I b B σC' σM' ∧ V_F b σC σM σC' σM' := by
  unfold fX8_work
  obtain ⟨y, y', e1, e2, hQ⟩ := pm_it_2 (f := fun a : Int × Int × pm_M => bdX8_work_5 b (σC b 7) a.1 a.2.1 a.2.2) (g := fun a : Int × pm_M => bdX12_hour_46 y1 y2 a.1 a.2)
    (fun m a a' => a.1 = 0 ∧ (∃ z : Nat, a.2.1 = z ∧ a'.1 = z ∧ z ≤ 3 ∧ m = 3 - z ∧ V_I b B a.2.2 a'.2) ∧ V_F b σC σM a.2.2 a'.2)
    (fun y y' => V_I b B y.2.2 y'.2 ∧ V_F b σC σM y.2.2 y'.2) (by
      rintro m ⟨k, z0, σ⟩ ⟨z0', τ⟩ ⟨hk, ⟨z, hz, hz', hle, hm, hI⟩, hF⟩
      dsimp only at hk hz hz' hI hF ⊢
      subst hk hz hz'
      by_cases c : z = 3
      · subst c
        refine Or.inl ⟨(0, ((3 : Nat) : Int), σ), (((3 : Nat) : Int), τ), ?_, ?_, hI, hF⟩
        · unfold bdX8_work_5
          simp (disch := omega) only [wr_eq, if_pos, if_true]
        · unfold bdX12_hour_46
          simp (disch := omega) only [wr_eq, if_pos, if_true]
      · have hv : z < 3 := by omega
        obtain ⟨g1, ⟨g2, g2a, g2b⟩, ⟨g3, g3a, g3b⟩, g4, g5⟩ := v_fact hI.2.1 hI.2.2.2.1 hv
        have i6 : Int.toNat (105 + 2 * (z : Int) + 1) = 106 + 2 * z := by omega
        by_cases c1 : σ (b + 23) z = -9
        · refine Or.inr ⟨(0, (z : Int) + 1, σ), ((z : Int) + 1, τ), m - 1, ?_, ?_, by omega, rfl, ⟨z + 1, by simp, by simp, by omega, by omega, hI⟩, hF⟩
          · unfold bdX8_work_5
            simp (disch := omega) only [wr_eq, if_neg, if_pos, if_true, if_false, pm_gt, Int.toNat_natCast]
          · unfold bdX12_hour_46
            have e : pm_up τ 25 (106 + 2 * z) (τ 25 (106 + 2 * z) + 0) = τ := pu_same (by omega)
            simp (disch := omega) only [wr_eq, if_neg, if_pos, if_true, if_false, pm_gt, Int.toNat_natCast, i6, e]
        · have hpr : 0 ≤ σ (b + 23) z := by omega
          obtain ⟨d1, d2⟩ := V_idle hI hv rfl
          refine Or.inr ⟨(0, (z : Int) + 1, pm_up σ (b + 26) z (σ (b + 26) z + 1)), ((z : Int) + 1, pm_up τ 25 (106 + 2 * z) (σ (b + 26) z + 1)), m - 1, ?_, ?_, by omega, rfl, ⟨z + 1, by simp, by simp, by omega, by omega, d1⟩, V_F_trans hF d2⟩
          · unfold bdX8_work_5 jnX8_work_53l5
            simp (disch := omega) only [wr_eq, if_neg, if_pos, if_true, if_false, pm_gt, Int.toNat_natCast]
          · unfold bdX12_hour_46
            simp (disch := omega) only [wr_eq, if_neg, if_pos, if_true, if_false, pm_gt, Int.toNat_natCast, i6, ← g5]) pm_fuel 3 (0, 0, σC) (0, σM)
    ⟨rfl, ⟨0, rfl, rfl, by omega, rfl, I⟩, V_F_refl⟩ (pm_fl (by decide))
  rw [e1, Option.bind_some]
  exact ⟨y'.1, y.2.2, y'.2, rfl, e2, hQ.1, hQ.2⟩
end VW
