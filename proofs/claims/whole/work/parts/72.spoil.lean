/-! ===== an hour: the heaps that spoil ===== -/
set_option maxHeartbeats 8000000 in
theorem h_spoil {b : Nat} {σC σM : pm_M} (hb : 15 ≤ b) (hR : R_rag σC σM) (t1 : T_num b σC σM) (t6 : T_hea b σC σM) : ∃ (σC' σM' : pm_M), fX1_spoilOld b (σC b 7) σC = some σC' ∧ (∃ z, pm_it (fun a : Int × pm_M => bdX12_hour_286 a.1 a.2) pm_fuel (0, σM) = some (z, σM')) ∧ T_hea b σC' σM' ∧ (∀ c, c ≠ b + 28 → c ≠ b + 30 → c ≠ b + 32 → σC' c = σC c) ∧ (∀ c, c ≠ 25 → σM' c = σM c) ∧ (∀ j, 80 ≤ j → j ≠ 754 → σM' 25 j = σM 25 j) := by
  unfold fX1_spoilOld
  have h40 := t6.2.2.1
  have n3 := t1.2.2.1
  obtain ⟨y, y', e1, e2, hQ⟩ := pm_it_2 (f := fun a : Int × pm_M => bdX1_spoilOld_2 b (σC b 7) a.1 a.2) (g := fun a : Int × pm_M => bdX12_hour_286 a.1 a.2)
    (fun m a a' => (∃ z : Nat, a.1 = z ∧ a'.1 = z ∧ (z : Int) ≤ σC (b + 28) 5 ∧ m = 40 - z) ∧ T_hea b a.2 a'.2 ∧ a.2 (b + 28) 5 = σC (b + 28) 5 ∧ (∀ c, c ≠ b + 28 → c ≠ b + 30 → c ≠ b + 32 → a.2 c = σC c) ∧ (∀ c, c ≠ 25 → a'.2 c = σM c) ∧ (∀ j, 80 ≤ j → j ≠ 754 → a'.2 25 j = σM 25 j))
    (fun y y' => T_hea b y.2 y'.2 ∧ (∀ c, c ≠ b + 28 → c ≠ b + 30 → c ≠ b + 32 → y.2 c = σC c) ∧ (∀ c, c ≠ 25 → y'.2 c = σM c) ∧ (∀ j, 80 ≤ j → j ≠ 754 → y'.2 25 j = σM 25 j)) (by
      rintro m ⟨z0, σ⟩ ⟨z0', τ⟩ ⟨⟨z, hz, hz', hle, hm⟩, u1, u2, u3, u4, u5⟩
      dsimp only at hz hz' u1 u2 u3 u4 u5 ⊢
      subst hz hz'
      obtain ⟨k1, k2, k3, k4, k5, k6⟩ := id u1
      by_cases c : (z : Int) = σC (b + 28) 5
      · refine Or.inl ⟨((z : Int), σ), ((z : Int), τ), ?_, ?_, u1, u3, u4, u5⟩
        · unfold bdX1_spoilOld_2
          simp (disch := omega) only [wr_eq, if_pos, if_true]
        · unfold bdX12_hour_286
          simp (disch := omega) only [← k1, wr_eq, if_pos, if_true]
      · obtain ⟨⟨g1, g1a, g1b⟩, ⟨g2, g2a, g2b⟩, ⟨g3, g3a, g3b⟩, g4, g5⟩ := k6 z (by omega)
        have eb : σ b 7 = σC b 7 := by rw [u3 b (by omega) (by omega) (by omega)]
        have r11 : σ 11 = σC 11 := u3 11 (by omega) (by omega) (by omega)
        have r12 : σ 12 = σC 12 := u3 12 (by omega) (by omega) (by omega)
        have m3 : τ 3 = σM 3 := u4 3 (by decide)
        have m4 : τ 4 = σM 4 := u4 4 (by decide)
        have m5 : τ 25 751 = σC b 7 := by rw [u5 751 (by decide) (by decide)]; exact t1.1.symm
        obtain ⟨q, hq⟩ := Int.eq_ofNat_of_zero_le g1a
        obtain ⟨r1, r1a, r1b⟩ := hR.1 q (by omega)
        obtain ⟨s1, s1a, s1b⟩ := hR.2.1 q (by omega)
        have hq' : τ 9 z = q := by omega
        have e9 : Int.tdiv (σC b 7 - σ (b + 31) z) 24 = (σC b 7 - σ (b + 31) z) / 24 := Int.tdiv_eq_ediv_of_nonneg (by omega)
        have i0 : (0 : Int) + (z : Int) = z := by omega
        have i4 : Int.toNat (40 + (z : Int)) = 40 + z := by omega
        by_cases c1 : (σC b 7 - σ (b + 31) z) / 24 ≤ σC 11 q + σC 12 q
        · refine Or.inr ⟨((z : Int) + 1, σ), ((z : Int) + 1, τ), m - 1, ?_, ?_, by omega, ⟨z + 1, by simp, by simp, by omega, by omega⟩, u1, u2, u3, u4, u5⟩
          · unfold bdX1_spoilOld_2 fX1_ageOf
            by_cases c2 : σ (b + 30) z ≤ 0
            · simp (disch := omega) only [wr_eq, if_pos, if_neg, if_true, if_false, pm_gt, Int.toNat_natCast, hq]
            · simp (disch := omega) only [wr_eq, if_pos, if_neg, if_true, if_false, pm_gt, Int.toNat_natCast, hq, e9, r11, r12, Option.bind_some]
          · unfold bdX12_hour_286 fX12_age
            simp (disch := omega) only [← k1, wr_eq, if_pos, if_neg, if_true, if_false, pm_gt, Int.toNat_natCast, Int.reduceToNat, hq', ← g3, m5, e9, m3, m4, ← r1, ← s1, Option.bind_some]
        · by_cases c2 : σ (b + 30) z ≤ 0
          · have z0 : σ (b + 30) z = 0 := by omega
            refine Or.inr ⟨((z : Int) + 1, σ), ((z : Int) + 1, pm_up (pm_up (pm_up τ 25 (40 + z) (τ 25 (40 + z) + 0)) 25 754 (τ 25 754 + 0)) 25 z 0), m - 1, ?_, ?_, by omega, ⟨z + 1, by simp, by simp, by omega, by omega⟩, ?_, u2, u3, ?_, ?_⟩
            · unfold bdX1_spoilOld_2
              simp (disch := omega) only [wr_eq, if_pos, if_neg, if_true, if_false, pm_gt, Int.toNat_natCast, hq]
            · unfold bdX12_hour_286 fX12_age
              simp (disch := omega) only [← k1, wr_eq, if_pos, if_neg, if_true, if_false, pm_gt, Int.toNat_natCast, Int.reduceToNat, hq', ← g3, m5, e9, m3, m4, ← r1, ← s1, Option.bind_some, i0, i4, pu_ne, ← g2, z0]
            · refine T_hea_cg u1 rfl (fun _ _ _ => rfl) (by simp (disch := omega) only [pu_ne]) (by simp (disch := omega) only [pu_o]) (by simp (disch := omega) only [pu_o]) (by simp (disch := omega) only [pu_ne, pu_eq]; omega) (fun j hj => ?_)
              by_cases e : j = z
              · subst e
                simp (disch := omega) only [pu_eq]; omega
              · by_cases e2 : j = 40 + z
                · subst e2
                  simp (disch := omega) only [pu_eq, pu_ne]; omega
                · simp (disch := omega) only [pu_ne]
            · intro c hc
              simp (disch := omega) only [pu_o]
              exact u4 c hc
            · intro j h1 h2
              simp (disch := omega) only [pu_ne]
              exact u5 j h1 h2
          · have g6 := g5 (by omega)
            refine Or.inr ⟨((z : Int) + 1, pm_up (pm_up (pm_up σ (b + 28) 6 (σ (b + 28) 6 + σ (b + 30) z)) (b + 32) z (σ (b + 30) z)) (b + 30) z 0), ((z : Int) + 1, pm_up (pm_up (pm_up τ 25 (40 + z) (τ 25 (40 + z) + σ (b + 30) z)) 25 754 (τ 25 754 + σ (b + 30) z)) 25 z 0), m - 1, ?_, ?_, by omega, ⟨z + 1, by simp, by simp, by omega, by omega⟩, ?_, ?_, ?_, ?_, ?_⟩
            · unfold bdX1_spoilOld_2 fX1_ageOf
              simp (disch := omega) only [wr_eq, if_pos, if_neg, if_true, if_false, pm_gt, Int.toNat_natCast, hq, e9, r11, r12, Option.bind_some, pu_ne]
            · unfold bdX12_hour_286 fX12_age
              simp (disch := omega) only [← k1, wr_eq, if_pos, if_neg, if_true, if_false, pm_gt, Int.toNat_natCast, Int.reduceToNat, hq', ← g3, m5, e9, m3, m4, ← r1, ← s1, Option.bind_some, i0, i4, pu_ne, ← g2]
            · unfold T_hea
              simp (disch := omega) only [pu_ne, pu_eq]
              refine ⟨k1, k2, k3, by omega, fun j hj hj2 => ?_, fun j hj => ?_⟩
              · have := k5 j hj hj2
                simp (disch := omega) only [pu_ne]
                exact this
              · by_cases e : j = z
                · subst e
                  simp (disch := omega) only [pu_ne, pu_eq]
                  exact ⟨⟨g1, g1a, g1b⟩, ⟨trivial, by omega, by omega⟩, ⟨g3, g3a, g3b⟩, by omega, fun q => by omega⟩
                · simp (disch := omega) only [pu_ne]
                  exact k6 j hj
            · dsimp only
              simp (disch := omega) only [pu_ne]
              exact u2
            · intro c h1 h2 h3
              simp (disch := omega) only [pu_o]
              exact u3 c h1 h2 h3
            · intro c hc
              simp (disch := omega) only [pu_o]
              exact u4 c hc
            · intro j h1 h2
              simp (disch := omega) only [pu_ne]
              exact u5 j h1 h2) pm_fuel 40 (0, σC) (0, σM)
    ⟨⟨0, rfl, rfl, by have := t6.2.1; simpa using this, rfl⟩, t6, rfl, fun _ _ _ _ => rfl, fun _ _ => rfl, fun _ _ _ => rfl⟩ (pm_fl (by decide))
  obtain ⟨y1, y2⟩ := y
  obtain ⟨x1, x2⟩ := y'
  obtain ⟨q1, q2, q3, q4⟩ := hQ
  rw [e1, Option.bind_some]
  exact ⟨y2, x2, rfl, ⟨x1, e2⟩, q1, q2, q3, q4⟩
