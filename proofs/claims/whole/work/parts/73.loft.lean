/-! ===== an hour: the loft ===== -/
set_option maxHeartbeats 8000000 in
theorem h_hang {b : Nat} {σC σM : pm_M} {y1 y2 : Int} (t1 : T_num b σC σM) (t4 : T_pos b σC σM) : ∃ (σC' σM' : pm_M), fX6_hangWet b (σC b 7) σC = some σC' ∧ (∃ k z, pm_it (fun a : Int × Int × pm_M => bdX12_hour_109 y1 y2 a.1 a.2.1 a.2.2) pm_fuel (σC (b + 11) 9 - σC (b + 11) 10, 0, σM) = some (k, z, σM')) ∧ T_pos b σC' σM' ∧ (∀ c, c ≠ b + 11 → c ≠ b + 18 → σC' c = σC c) ∧ (∀ c, c ≠ 25 → σM' c = σM c) ∧ (∀ j, (j < 111 ∨ 751 ≤ j) → σM' 25 j = σM 25 j) ∧ σC' (b + 11) 8 = σC (b + 11) 8 := by
  unfold fX6_hangWet
  have n3 := t1.2.2.1
  have n2 := t1.2.1
  obtain ⟨y, y', e1, e2, hQ⟩ := pm_it_3 (f := fun a : pm_M => bdX6_hangWet_0 b (σC b 7) a) (g := fun a : Int × Int × pm_M => bdX12_hour_109 y1 y2 a.1 a.2.1 a.2.2)
    (fun m a a' => (∃ z : Nat, a'.2.1 = z ∧ (z : Int) ≤ σC (b + 11) 8 ∧ m = 80 - z ∧ ((z : Int) ≤ a (b + 11) 9 ∨ a (b + 11) 11 ≤ a (b + 11) 9 - a (b + 11) 10)) ∧ a'.1 = a (b + 11) 9 - a (b + 11) 10 ∧ T_pos b a a'.2.2 ∧ a (b + 11) 8 = σC (b + 11) 8 ∧ (∀ c, c ≠ b + 11 → c ≠ b + 18 → a c = σC c) ∧ (∀ c, c ≠ 25 → a'.2.2 c = σM c) ∧ (∀ j, (j < 111 ∨ 751 ≤ j) → a'.2.2 25 j = σM 25 j))
    (fun y y' => T_pos b y y'.2.2 ∧ (∀ c, c ≠ b + 11 → c ≠ b + 18 → y c = σC c) ∧ (∀ c, c ≠ 25 → y'.2.2 c = σM c) ∧ (∀ j, (j < 111 ∨ 751 ≤ j) → y'.2.2 25 j = σM 25 j) ∧ y (b + 11) 8 = σC (b + 11) 8) (by
      rintro m σ ⟨k, z0, τ⟩ ⟨⟨z, hz, hle, hm, hgo⟩, hk, u1, u2, u3, u4, u5⟩
      dsimp only at hz hk u1 u4 u5 ⊢
      subst hz hk
      obtain ⟨p1, p2, p3, p4, p5, p6, p7, p8, p9, p10, p11⟩ := id u1
      have eb : σ b 7 = σC b 7 := by rw [u3 b (by omega) (by omega)]
      have p1' : τ 25 (Int.toNat 752) = σ (b + 11) 8 := p1.symm
      have m5 : τ 25 751 = σC b 7 := by rw [u5 751 (by omega)]; exact t1.1.symm
      have i0 : Int.toNat (111 + 8 * (z : Int) + 0) = 111 + 8 * z := by omega
      have i4 : Int.toNat (111 + 8 * (z : Int) + 4) = 115 + 8 * z := by omega
      by_cases c : (z : Int) = σC (b + 11) 8
      · refine Or.inl ⟨σ, (σ (b + 11) 9 - σ (b + 11) 10, (z : Int), τ), ?_, ?_, u1, u3, u4, u5, u2⟩
        · unfold bdX6_hangWet_0 fX6_hanging
          by_cases c1 : σ (b + 11) 8 ≤ σ (b + 11) 9
          · simp (disch := omega) only [wr_eq, if_pos, if_true]
          · simp (disch := omega) only [wr_eq, if_pos, if_neg, if_true, if_false, Option.bind_some]
        · unfold bdX12_hour_109
          simp (disch := omega) only [p1', wr_eq, if_pos, if_true]
      · have st := p_st u1 (i := z) (by omega)
        by_cases c1 : (z : Int) < σ (b + 11) 9
        · refine Or.inr (Or.inr (Or.inr ⟨(σ (b + 11) 9 - σ (b + 11) 10, (z : Int) + 1, τ), m - 1, ?_, by omega, ⟨z + 1, by simp, by omega, by omega, by omega⟩, rfl, u1, u2, u3, u4, u5⟩))
          unfold bdX12_hour_109 fX12_post
          simp (disch := omega) only [p1', wr_eq, if_neg, if_false, pm_gt, i0, Option.bind_some]
        · have st0 : τ 25 (111 + 8 * z) = 0 := by omega
          by_cases c2 : σ (b + 11) 9 - σ (b + 11) 10 < σ (b + 11) 11
          · have ez : σ (b + 11) 9 = z := by omega
            obtain ⟨a1, a2, a3, ⟨a4, a5⟩, ⟨a6, a7, a8, a9⟩, a10, ⟨a11, a12⟩, a13⟩ := p9 z (by omega)
            have g9 : σ (b + 21) z = -9 := by omega
            rw [if_neg (by omega), if_neg (by omega)] at a9
            refine Or.inr (Or.inl ⟨pm_up (pm_up σ (b + 18) z (σC b 7)) (b + 11) 9 ((z : Int) + 1), (σ (b + 11) 9 - σ (b + 11) 10 + 1, (z : Int) + 1, pm_up (pm_up τ 25 (111 + 8 * z) 1) 25 (115 + 8 * z) (σC b 7)), m - 1, ?_, ?_, by omega, ⟨z + 1, by simp, by omega, by omega, ?_⟩, ?_, ?_, ?_, ?_, ?_, ?_⟩)
            · unfold bdX6_hangWet_0 fX6_hanging
              simp (disch := omega) only [wr_eq, if_pos, if_neg, if_true, if_false, Option.bind_some, pm_gt, pu_ne, ez, Int.toNat_natCast]
            · unfold bdX12_hour_109 fX12_post fX12_put
              simp (disch := omega) only [p1', wr_eq, if_pos, if_neg, if_true, if_false, pm_gt, i0, i4, Option.bind_some, st0, ← p6, Int.reduceToNat, pu_ne, m5]
            · left
              simp (disch := omega) only [pu_eq]
              omega
            · dsimp only
              simp (disch := omega) only [pu_eq, pu_ne]
              omega
            · unfold T_pos
              simp (disch := omega) only [pu_eq, pu_ne]
              refine ⟨p1, p2, by omega, by omega, p5, p6, p7, p8, fun i hi => ?_, fun i j h1 h2 h3 => ?_, p11⟩
              · by_cases e : i = z
                · subst e
                  simp (disch := omega) only [pu_eq, pu_ne, if_pos, if_neg]
                  exact ⟨a1, a2, a3, ⟨trivial, by omega, by omega⟩, ⟨a6, a7, a8, by omega⟩, a10, ⟨a11, a12⟩, trivial⟩
                · simp (disch := omega) only [pu_ne]
                  obtain ⟨b1, b2, b3, ⟨b4, b5⟩, ⟨b6, b7, b8, b9⟩, b10, ⟨b11, b12⟩, b13⟩ := p9 i hi
                  have ei : ((i : Int) < (z : Int) + 1) ↔ ((i : Int) < σ (b + 11) 9) := by omega
                  simp only [ei]
                  exact ⟨b1, b2, b3, ⟨b4, b5⟩, ⟨b6, b7, b8, b9⟩, b10, ⟨b11, b12⟩, b13⟩
              · by_cases e : j = z
                · subst e
                  obtain ⟨b1, b2, b3, ⟨b4, b5⟩, ⟨b6, b7, b8, b9⟩, b10, ⟨b11, b12⟩, b13⟩ := p9 i (by omega)
                  omega
                · exact p10 i j h1 h2 (by omega)
            · simp (disch := omega) only [pu_ne]
              exact u2
            · intro c h1 h2
              simp (disch := omega) only [pu_o]
              exact u3 c h1 h2
            · intro c h1
              dsimp only
              simp (disch := omega) only [pu_o]
              exact u4 c h1
            · intro j hj
              dsimp only
              simp (disch := omega) only [pu_ne]
              exact u5 j hj
          · refine Or.inr (Or.inr (Or.inr ⟨(σ (b + 11) 9 - σ (b + 11) 10, (z : Int) + 1, τ), m - 1, ?_, by omega, ⟨z + 1, by simp, by omega, by omega, by omega⟩, rfl, u1, u2, u3, u4, u5⟩))
            unfold bdX12_hour_109 fX12_post
            simp (disch := omega) only [p1', wr_eq, if_pos, if_neg, if_true, if_false, pm_gt, i0, Option.bind_some, st0, ← p6]) 80 pm_fuel pm_fuel σC (σC (b + 11) 9 - σC (b + 11) 10, 0, σM)
    ⟨⟨0, rfl, by obtain ⟨p1, p2, p3, p4, p5, p6⟩ := t4; omega, rfl, Or.inl (by obtain ⟨p1, p2, p3, p4, p5, p6⟩ := t4; omega)⟩, rfl, t4, rfl, fun _ _ _ => rfl, fun _ _ => rfl, fun _ _ => rfl⟩ (pm_fl (by decide)) (pm_fl (by decide))
  obtain ⟨x1, x2, x3⟩ := y'
  rw [e1, Option.bind_some]
  obtain ⟨q1, q2, q3, q4, q5⟩ := hQ
  exact ⟨y, x3, rfl, ⟨x1, x2, e2⟩, q1, q2, q3, q4, q5⟩
set_option maxHeartbeats 8000000 in
theorem h_dry {b : Nat} {σC σM : pm_M} {d : Int} (hd : 0 ≤ d ∧ d ≤ 9) (t1 : T_num b σC σM) (t4 : T_pos b σC σM) : ∃ (σC' σM' : pm_M), fX6_dryHanging b d (σC b 7) σC = some σC' ∧ (∃ z, pm_it (fun a : Int × pm_M => bdX12_hour_194 d a.1 a.2) pm_fuel (0, σM) = some (z, σM')) ∧ T_pos b σC' σM' ∧ (∀ c, c ≠ b + 11 → c ≠ b + 19 → c ≠ b + 20 → σC' c = σC c) ∧ (∀ c, c ≠ 25 → σM' c = σM c) ∧ (∀ j, (j < 111 ∨ 751 ≤ j) → σM' 25 j = σM 25 j) ∧ σC' (b + 11) 8 = σC (b + 11) 8 := by
  unfold fX6_dryHanging
  have n3 := t1.2.2.1
  have n2 := t1.2.1
  obtain ⟨P1, P2, P3, P4, P5, -⟩ := id t4
  obtain ⟨D, hD⟩ := Int.eq_ofNat_of_zero_le P2
  obtain ⟨y, y', e1, e2, hQ⟩ := pm_it_3 (f := fun a : Int × pm_M => bdX6_dryHanging_5 b d (σC b 7) a.1 a.2) (g := fun a : Int × pm_M => bdX12_hour_194 d a.1 a.2)
    (fun m a a' => (∃ z z' : Nat, a.1 = z ∧ a'.1 = z' ∧ a.2 (b + 11) 10 ≤ z ∧ (z : Int) ≤ σC (b + 11) 9 ∧ (z' : Int) ≤ σC (b + 11) 8 ∧ m = 80 - z' ∧ ((z' ≤ z ∧ z = D ∧ a.2 (b + 11) 10 = D) ∨ z' = z ∨ ((z : Int) = σC (b + 11) 9 ∧ z ≤ z')) ∧ (∀ i j : Nat, a.2 (b + 11) 10 ≤ i → i < z → z ≤ j → (j : Int) < σC (b + 11) 9 → a.2 (b + 19) j + d ≤ a.2 (b + 19) i)) ∧ T_pos b a.2 a'.2 ∧ a.2 (b + 11) 8 = σC (b + 11) 8 ∧ a.2 (b + 11) 9 = σC (b + 11) 9 ∧ (∀ c, c ≠ b + 11 → c ≠ b + 19 → c ≠ b + 20 → a.2 c = σC c) ∧ (∀ c, c ≠ 25 → a'.2 c = σM c) ∧ (∀ j, (j < 111 ∨ 751 ≤ j) → a'.2 25 j = σM 25 j))
    (fun y y' => T_pos b y.2 y'.2 ∧ (∀ c, c ≠ b + 11 → c ≠ b + 19 → c ≠ b + 20 → y.2 c = σC c) ∧ (∀ c, c ≠ 25 → y'.2 c = σM c) ∧ (∀ j, (j < 111 ∨ 751 ≤ j) → y'.2 25 j = σM 25 j) ∧ y.2 (b + 11) 8 = σC (b + 11) 8) (by
      rintro m ⟨z0, σ⟩ ⟨z0', τ⟩ ⟨⟨z, z', hz, hz', hdz, hle, hle', hm, hph, hE⟩, u1, u2, u2b, u3, u4, u5⟩
      dsimp only at hz hz' hdz hph hE u1 u2 u2b u3 u4 u5 ⊢
      subst hz hz'
      obtain ⟨p1, p2, p3, p4, p5, p6, p7, p8, p9, p10, p11⟩ := id u1
      have eb : σ b 7 = σC b 7 := by rw [u3 b (by omega) (by omega) (by omega)]
      have p1' : τ 25 (Int.toNat 752) = σ (b + 11) 8 := p1.symm
      have m5 : τ 25 751 = σC b 7 := by rw [u5 751 (by omega)]; exact t1.1.symm
      have i0 : Int.toNat (111 + 8 * (z' : Int) + 0) = 111 + 8 * z' := by omega
      have i5 : Int.toNat (111 + 8 * (z' : Int) + 5) = 116 + 8 * z' := by omega
      have i6 : Int.toNat (111 + 8 * (z' : Int) + 6) = 117 + 8 * z' := by omega
      by_cases c : (z' : Int) = σC (b + 11) 8
      · refine Or.inl ⟨((z : Int), σ), ((z' : Int), τ), ?_, ?_, u1, u3, u4, u5, u2⟩
        · unfold bdX6_dryHanging_5
          simp (disch := omega) only [wr_eq, if_pos, if_true]
        · unfold bdX12_hour_194
          simp (disch := omega) only [p1', wr_eq, if_pos, if_true]
      · have st := p_st u1 (i := z') (by omega)
        by_cases c1 : z' < z
        · refine Or.inr (Or.inr (Or.inr ⟨((z' : Int) + 1, τ), m - 1, ?_, by omega, ⟨z, z' + 1, rfl, by simp, hdz, hle, by omega, by omega, by omega, hE⟩, u1, u2, u2b, u3, u4, u5⟩))
          unfold bdX12_hour_194 fX12_post
          simp (disch := omega) only [p1', wr_eq, if_neg, if_false, pm_gt, i0, Option.bind_some]
        · by_cases c2 : σC (b + 11) 9 ≤ z'
          · refine Or.inr (Or.inr (Or.inr ⟨((z' : Int) + 1, τ), m - 1, ?_, by omega, ⟨z, z' + 1, rfl, by simp, hdz, hle, by omega, by omega, by omega, hE⟩, u1, u2, u2b, u3, u4, u5⟩))
            unfold bdX12_hour_194 fX12_post
            simp (disch := omega) only [p1', wr_eq, if_neg, if_false, pm_gt, i0, Option.bind_some]
          · have ez : z = z' := by omega
            subst ez
            have st1 : τ 25 (111 + 8 * z) = 1 := by omega
            obtain ⟨a1, a2, a3, ⟨a4, a5⟩, ⟨a6, a7, a8, a9⟩, a10, ⟨a11, a12⟩, a13⟩ := p9 z (by omega)
            have g9 : σ (b + 21) z = -9 := by omega
            rw [if_neg (by omega), if_pos (by omega)] at a9
            by_cases c3 : σ (b + 19) z + d < 40
            · refine Or.inr (Or.inl ⟨((z : Int) + 1, pm_up σ (b + 19) z (σ (b + 19) z + d)), ((z : Int) + 1, pm_up τ 25 (116 + 8 * z) (σ (b + 19) z + d)), m - 1, ?_, ?_, by omega, ⟨z + 1, z + 1, by simp, by simp, ?_, by omega, by omega, by omega, Or.inr (Or.inl rfl), ?_⟩, ?_, ?_, ?_, ?_, ?_, ?_⟩)
              · unfold bdX6_dryHanging_5
                simp (disch := omega) only [wr_eq, if_pos, if_neg, if_true, if_false, pm_gt, pu_eq, Int.toNat_natCast]
              · unfold bdX12_hour_194 fX12_post fX12_put
                simp (disch := omega) only [p1', wr_eq, if_pos, if_neg, if_true, if_false, pm_gt, i0, i5, Option.bind_some, st1, ← a6, pu_eq]
              · dsimp only
                simp (disch := omega) only [pu_ne]
                omega
              · intro i j h1 h2 h3 h4
                dsimp only at h1 ⊢
                rw [pu_ne (by omega)] at h1
                rw [pu_ne (show b + 19 ≠ b + 19 ∨ j ≠ z by omega)]
                by_cases e : i = z
                · rw [pu_eq ⟨rfl, e⟩]
                  have := p10 z j (by omega) (by omega) (by omega)
                  omega
                · rw [pu_ne (Or.inr e)]
                  exact hE i j h1 (by omega) (by omega) h4
              · unfold T_pos
                simp (disch := omega) only [pu_ne]
                refine ⟨p1, p2, p3, p4, p5, p6, p7, p8, fun i hi => ?_, fun i j h1 h2 h3 => ?_, p11⟩
                · by_cases e : i = z
                  · subst e
                    simp (disch := omega) only [pu_eq, pu_ne]
                    refine ⟨a1, a2, a3, ⟨a4, a5⟩, ⟨trivial, by omega, by omega, ?_⟩, a10, ⟨a11, a12⟩, a13⟩
                    rw [if_neg (by omega), if_pos (by omega)]
                    exact c3
                  · simp (disch := omega) only [pu_ne]
                    exact p9 i hi
                · by_cases e : j = z
                  · by_cases e2 : i = z
                    · rw [e, e2]; exact Int.le_refl _
                    · rw [pu_eq ⟨rfl, e⟩, pu_ne (Or.inr e2)]
                      exact hE i z h1 (by omega) (by omega) (by omega)
                  · rw [pu_ne (Or.inr e)]
                    have q := p10 i j h1 h2 h3
                    by_cases e2 : i = z
                    · rw [pu_eq ⟨rfl, e2⟩]
                      rw [e2] at q
                      omega
                    · rw [pu_ne (Or.inr e2)]; exact q
              · dsimp only
                simp (disch := omega) only [pu_ne]
                exact u2
              · dsimp only
                simp (disch := omega) only [pu_ne]
                exact u2b
              · intro c h1 h2 h3
                dsimp only
                simp (disch := omega) only [pu_o]
                exact u3 c h1 h2 h3
              · intro c h1
                dsimp only
                simp (disch := omega) only [pu_o]
                exact u4 c h1
              · intro j hj
                dsimp only
                simp (disch := omega) only [pu_ne]
                exact u5 j hj
            · have ed : σ (b + 11) 10 = z := by
                by_cases q : σ (b + 11) 10 = z
                · exact q
                · exfalso
                  obtain ⟨e, he⟩ := Int.eq_ofNat_of_zero_le p2
                  have q1 := hE e z (by omega) (by omega) (by omega) (by omega)
                  obtain ⟨-, -, -, -, ⟨-, -, -, b9⟩, -⟩ := p9 e (by omega)
                  rw [if_neg (by omega), if_pos (by omega)] at b9
                  omega
              refine Or.inr (Or.inl ⟨((z : Int) + 1, pm_up (pm_up (pm_up σ (b + 19) z (σ (b + 19) z + d)) (b + 20) z (σC b 7)) (b + 11) 10 ((z : Int) + 1)), ((z : Int) + 1, pm_up (pm_up (pm_up τ 25 (116 + 8 * z) (σ (b + 19) z + d)) 25 (111 + 8 * z) 2) 25 (117 + 8 * z) (σC b 7)), m - 1, ?_, ?_, by omega, ⟨z + 1, z + 1, by simp, by simp, ?_, by omega, by omega, by omega, Or.inr (Or.inl rfl), ?_⟩, ?_, ?_, ?_, ?_, ?_, ?_⟩)
              · unfold bdX6_dryHanging_5
                simp (disch := omega) only [wr_eq, if_pos, if_neg, if_true, if_false, pm_gt, pu_eq, pu_ne, Int.toNat_natCast, ed]
              · unfold bdX12_hour_194 fX12_post fX12_put
                simp (disch := omega) only [p1', wr_eq, if_pos, if_neg, if_true, if_false, pm_gt, i0, i5, i6, Option.bind_some, st1, ← a6, pu_eq, pu_ne, Int.reduceToNat, m5]
              · dsimp only
                simp (disch := omega) only [pu_eq]
                omega
              · intro i j h1 h2 h3 h4
                dsimp only at h1
                rw [pu_eq ⟨rfl, rfl⟩] at h1
                omega
              · unfold T_pos
                simp (disch := omega) only [pu_eq, pu_ne]
                refine ⟨p1, by omega, by omega, p4, p5, p6, p7, p8, fun i hi => ?_, fun i j h1 h2 h3 => ?_, p11⟩
                · by_cases e : i = z
                  · subst e
                    simp (disch := omega) only [pu_eq, pu_ne, if_pos]
                    refine ⟨a1, a2, a3, ⟨a4, by rw [if_pos (by omega)] at a5; exact a5⟩, ⟨trivial, by omega, by omega, by omega⟩, trivial, ⟨a11, by omega⟩, ?_⟩
                    rw [if_neg (fun q => q g9)]
                  · simp (disch := omega) only [pu_ne]
                    obtain ⟨b1, b2, b3, ⟨b4, b5⟩, ⟨b6, b7, b8, b9⟩, b10, ⟨b11, b12⟩, b13⟩ := p9 i hi
                    have ei : ((i : Int) < (z : Int) + 1) ↔ ((i : Int) < σ (b + 11) 10) := by omega
                    simp only [ei]
                    exact ⟨b1, b2, b3, ⟨b4, b5⟩, ⟨b6, b7, b8, b9⟩, b10, ⟨b11, b12⟩, b13⟩
                · rw [pu_ne (show b + 19 ≠ b + 19 ∨ j ≠ z by omega), pu_ne (show b + 19 ≠ b + 19 ∨ i ≠ z by omega)]
                  exact p10 i j (by omega) h2 h3
              · dsimp only
                simp (disch := omega) only [pu_ne]
                exact u2
              · dsimp only
                simp (disch := omega) only [pu_ne]
                exact u2b
              · intro c h1 h2 h3
                dsimp only
                simp (disch := omega) only [pu_o]
                exact u3 c h1 h2 h3
              · intro c h1
                dsimp only
                simp (disch := omega) only [pu_o]
                exact u4 c h1
              · intro j hj
                dsimp only
                simp (disch := omega) only [pu_ne]
                exact u5 j hj) 80 pm_fuel pm_fuel (σC (b + 11) 10, σC) (0, σM)
    ⟨⟨D, 0, hD, rfl, by dsimp only; omega, by omega, by omega, rfl, Or.inl ⟨by omega, rfl, hD⟩, fun i j h1 h2 _ _ => by dsimp only at h1; omega⟩, t4, rfl, rfl, fun _ _ _ _ => rfl, fun _ _ => rfl, fun _ _ => rfl⟩ (pm_fl (by decide)) (pm_fl (by decide))
  obtain ⟨x1, x2⟩ := y'
  rw [e1, Option.bind_some]
  obtain ⟨q1, q2, q3, q4, q5⟩ := hQ
  exact ⟨y.2, x2, rfl, ⟨x1, e2⟩, q1, q2, q3, q4, q5⟩
