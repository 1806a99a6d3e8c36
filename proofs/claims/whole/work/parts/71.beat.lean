/-! ===== an hour: the beaters ===== -/
set_option maxHeartbeats 8000000 in
theorem h_beat {b : Nat} {σC σM : pm_M} {w : Int} (hw : 0 ≤ w ∧ w ≤ 60) (t1 : T_num b σC σM) (t2 : T_bea b σC σM) : ∃ (w' z' : Int) (σC' σM' : pm_M), fX0_work b w σC = some (w', σC') ∧ pm_it (fun a : Int × Int × pm_M => bdX12_works_4 a.1 a.2.1 a.2.2) pm_fuel (w, 0, σM) = some (w', z', σM') ∧ (0 ≤ w' ∧ w' ≤ 60) ∧ T_num b σC' σM' ∧ T_bea b σC' σM' ∧ (∀ c, c ≠ b + 1 → c ≠ b + 3 → c ≠ b + 5 → c ≠ b + 6 → σC' c = σC c) ∧ (∀ c, c ≠ 25 → σM' c = σM c) ∧ (∀ j, (j < 80 ∨ 105 ≤ j) → σM' 25 j = σM 25 j) := by
  unfold fX0_work
  obtain ⟨y, y', e1, e2, hQ⟩ := pm_it_2 (f := fun a : Int × Int × pm_M => bdX0_work_5 b a.1 a.2.1 a.2.2) (g := fun a : Int × Int × pm_M => bdX12_works_4 a.1 a.2.1 a.2.2)
    (fun m a a' => a.1 = a'.1 ∧ (0 ≤ a.1 ∧ a.1 ≤ 60) ∧ (∃ z : Nat, a.2.1 = z ∧ a'.2.1 = z ∧ z ≤ 4 ∧ m = 4 - z) ∧ T_num b a.2.2 a'.2.2 ∧ T_bea b a.2.2 a'.2.2 ∧ (∀ c, c ≠ b + 1 → c ≠ b + 3 → c ≠ b + 5 → c ≠ b + 6 → a.2.2 c = σC c) ∧ (∀ c, c ≠ 25 → a'.2.2 c = σM c) ∧ (∀ j, (j < 80 ∨ 105 ≤ j) → a'.2.2 25 j = σM 25 j))
    (fun y y' => y.1 = y'.1 ∧ (0 ≤ y.1 ∧ y.1 ≤ 60) ∧ T_num b y.2.2 y'.2.2 ∧ T_bea b y.2.2 y'.2.2 ∧ (∀ c, c ≠ b + 1 → c ≠ b + 3 → c ≠ b + 5 → c ≠ b + 6 → y.2.2 c = σC c) ∧ (∀ c, c ≠ 25 → y'.2.2 c = σM c) ∧ (∀ j, (j < 80 ∨ 105 ≤ j) → y'.2.2 25 j = σM 25 j)) (by
      rintro m ⟨k, z0, σ⟩ ⟨k', z0', τ⟩ ⟨hk, hk2, ⟨z, hz, hz', hle, hm⟩, u1, u2, u3, u4, u5⟩
      dsimp only at hk hk2 hz hz' u1 u2 u3 u4 u5 ⊢
      subst hk hz hz'
      by_cases c : z = 4
      · subst c
        refine Or.inl ⟨(k, ((4 : Nat) : Int), σ), (k, ((4 : Nat) : Int), τ), ?_, ?_, rfl, hk2, u1, u2, u3, u4, u5⟩
        · unfold bdX0_work_5
          simp (disch := omega) only [wr_eq, if_pos, if_true]
        · unfold bdX12_works_4
          simp (disch := omega) only [wr_eq, if_pos, if_true]
      · obtain ⟨⟨g1, g1a, g1b⟩, ⟨g2, g2a, g2b⟩, ⟨g3, g3a, g3b, g3c⟩, g4⟩ := u2 z (by omega)
        have i0 : Int.toNat (80 + 4 * (z : Int)) = 80 + 4 * z := by omega
        have i1 : Int.toNat (80 + 4 * (z : Int) + 1) = 81 + 4 * z := by omega
        have i2 : Int.toNat (80 + 4 * (z : Int) + 2) = 82 + 4 * z := by omega
        have i3 : Int.toNat (80 + 4 * (z : Int) + 3) = 83 + 4 * z := by omega
        have ee := e_emp u2 (n := z) (by omega)
        by_cases c1 : σ (b + 3) z = 0
        · rw [if_pos c1] at ee
          refine Or.inr ⟨(k, (z : Int) + 1, σ), (k, (z : Int) + 1, τ), m - 1, ?_, ?_, by omega, rfl, hk2, ⟨z + 1, by simp, by simp, by omega, by omega⟩, u1, u2, u3, u4, u5⟩
          · unfold bdX0_work_5
            simp (disch := omega) only [wr_eq, if_pos, if_neg, if_true, if_false, ee, Option.bind_some]
          · unfold bdX12_works_4
            simp (disch := omega) only [wr_eq, if_pos, if_neg, if_true, if_false, pm_gt, i0, ← g1]
        · rw [if_neg c1] at ee
          by_cases c2 : k < 6
          · refine Or.inr ⟨(k, (z : Int) + 1, σ), (k, (z : Int) + 1, τ), m - 1, ?_, ?_, by omega, rfl, hk2, ⟨z + 1, by simp, by simp, by omega, by omega⟩, u1, u2, u3, u4, u5⟩
            · unfold bdX0_work_5
              simp (disch := omega) only [wr_eq, if_pos, if_neg, if_true, if_false, ee, Option.bind_some]
            · unfold bdX12_works_4
              simp (disch := omega) only [wr_eq, if_pos, if_neg, if_true, if_false, pm_gt, i0, ← g1]
          · obtain ⟨n1, n2, n3, n4⟩ := id u1
            obtain ⟨q, hq⟩ := Int.eq_ofNat_of_zero_le g2a
            have iq : Int.toNat (96 + (q : Int)) = 96 + q := by omega
            have g2' : τ 25 (81 + 4 * z) = q := by omega
            have nq := n4 q (by omega)
            by_cases c3 : σ (b + 5) z - 1 = 0
            · refine Or.inr ⟨(k + (-6), (z : Int) + 1, pm_up (pm_up (pm_up (pm_up σ (b + 5) z (σ (b + 5) z - 1)) (b + 1) q (σ (b + 1) q + 14 * σ (b + 3) z)) (b + 3) z 0) (b + 6) z (σ (b + 6) z + 1)), (k + (-6), (z : Int) + 1, pm_up (pm_up (pm_up (pm_up τ 25 (82 + 4 * z) (σ (b + 5) z - 1)) 25 (96 + q) (σ (b + 1) q + 14 * σ (b + 3) z)) 25 (80 + 4 * z) 0) 25 (83 + 4 * z) (σ (b + 6) z + 1)), m - 1, ?_, ?_, by omega, rfl, by dsimp only; omega, ⟨z + 1, by simp, by simp, by omega, by omega⟩, ?_, ?_, ?_, ?_, ?_⟩
              · unfold bdX0_work_5 fX0_end
                simp (disch := omega) only [wr_eq, if_pos, if_neg, if_true, if_false, ee, Option.bind_some, pm_gt, pu_eq, pu_ne, Int.toNat_natCast, hq]
              · unfold bdX12_works_4
                simp (disch := omega) only [wr_eq, if_pos, if_neg, if_true, if_false, pm_gt, pu_eq, pu_ne, i0, i1, i2, i3, iq, ← g1, g2', ← g3, ← g4, ← nq]
              · refine ⟨?_, ?_, ?_, fun i hi => ?_⟩
                · simp (disch := omega) only [pu_ne]; exact n1
                · simp (disch := omega) only [pu_ne]; exact n2
                · simp (disch := omega) only [pu_ne]; exact n3
                · by_cases e : i = q
                  · subst e
                    simp (disch := omega) only [pu_ne, pu_eq]
                  · simp (disch := omega) only [pu_ne]; exact n4 i hi
              · intro i hi
                by_cases e : i = z
                · subst e
                  simp (disch := omega) only [pu_ne, pu_eq]
                  exact ⟨⟨trivial, by omega, by omega⟩, ⟨g2, g2a, g2b⟩, ⟨trivial, by omega, by omega, iff_of_true trivial c3⟩, trivial⟩
                · simp (disch := omega) only [pu_ne]
                  exact u2 i hi
              · intro c h1 h2 h3 h4
                simp (disch := omega) only [pu_o]
                exact u3 c h1 h2 h3 h4
              · intro c h1
                simp (disch := omega) only [pu_o]
                exact u4 c h1
              · intro j hj
                simp (disch := omega) only [pu_ne]
                exact u5 j hj
            · refine Or.inr ⟨(k + (-6), (z : Int) + 1, pm_up σ (b + 5) z (σ (b + 5) z - 1)), (k + (-6), (z : Int) + 1, pm_up τ 25 (82 + 4 * z) (σ (b + 5) z - 1)), m - 1, ?_, ?_, by omega, rfl, by dsimp only; omega, ⟨z + 1, by simp, by simp, by omega, by omega⟩, ?_, ?_, ?_, ?_, ?_⟩
              · unfold bdX0_work_5
                simp (disch := omega) only [wr_eq, if_pos, if_neg, if_true, if_false, ee, Option.bind_some, pm_gt, pu_eq, pu_ne, Int.toNat_natCast]
              · unfold bdX12_works_4
                simp (disch := omega) only [wr_eq, if_pos, if_neg, if_true, if_false, pm_gt, pu_eq, pu_ne, i0, i2, ← g1, ← g3]
              · refine ⟨?_, ?_, ?_, fun i hi => ?_⟩
                · simp (disch := omega) only [pu_ne]; exact n1
                · simp (disch := omega) only [pu_ne]; exact n2
                · simp (disch := omega) only [pu_ne]; exact n3
                · simp (disch := omega) only [pu_ne]; exact n4 i hi
              · intro i hi
                by_cases e : i = z
                · subst e
                  simp (disch := omega) only [pu_ne, pu_eq]
                  exact ⟨⟨g1, g1a, g1b⟩, ⟨g2, g2a, g2b⟩, ⟨trivial, by omega, by omega, by omega⟩, g4⟩
                · simp (disch := omega) only [pu_ne]
                  exact u2 i hi
              · intro c h1 h2 h3 h4
                simp (disch := omega) only [pu_o]
                exact u3 c h1 h2 h3 h4
              · intro c h1
                simp (disch := omega) only [pu_o]
                exact u4 c h1
              · intro j hj
                simp (disch := omega) only [pu_ne]
                exact u5 j hj) pm_fuel 4 (w, 0, σC) (w, 0, σM)
    ⟨rfl, hw, ⟨0, rfl, rfl, by omega, rfl⟩, t1, t2, fun _ _ _ _ _ => rfl, fun _ _ => rfl, fun _ _ => rfl⟩ (pm_fl (by decide))
  obtain ⟨y1, y2, y3⟩ := y
  obtain ⟨x1, x2, x3⟩ := y'
  obtain ⟨q0, q1, q2, q3, q4, q5, q6⟩ := hQ
  dsimp only at q0 q1 q2 q3 q4 q5 q6
  subst q0
  rw [e1, Option.bind_some]
  exact ⟨y1, x2, y3, x3, rfl, e2, q1, q2, q3, q4, q5, q6⟩
/-- with no water nothing is beaten -/
theorem h_beat0 {b : Nat} {σC σM : pm_M} (t2 : T_bea b σC σM) : fX0_work b 0 σC = some (0, σC) := by
  unfold fX0_work
  obtain ⟨y, e1, hQ⟩ := pm_it_ok (f := fun a : Int × Int × pm_M => bdX0_work_5 b a.1 a.2.1 a.2.2)
    (fun a => a.1 = 0 ∧ a.2.2 = σC ∧ ∃ z : Nat, a.2.1 = z ∧ z ≤ 4) (fun y => y.1 = 0 ∧ y.2.2 = σC) (fun a => 4 - a.2.1.toNat) (by
      rintro ⟨k, z0, σ⟩ ⟨h1, h2, z, hz, hle⟩
      dsimp only at h1 h2 hz ⊢
      subst h1 h2 hz
      by_cases c : z = 4
      · subst c
        refine Or.inl ⟨(0, ((4 : Nat) : Int), σ), ?_, rfl, rfl⟩
        unfold bdX0_work_5
        simp (disch := omega) only [wr_eq, if_pos, if_true]
      · refine Or.inr ⟨(0, (z : Int) + 1, σ), ?_, ⟨rfl, rfl, z + 1, by simp, by omega⟩, by simp; omega⟩
        unfold bdX0_work_5
        rw [e_emp t2 (n := z) (by omega)]
        by_cases c1 : σ (b + 3) z = 0
        · simp (disch := omega) only [wr_eq, if_pos, if_neg, if_true, if_false, Option.bind_some]
        · simp (disch := omega) only [wr_eq, if_pos, if_neg, if_true, if_false, Option.bind_some]) pm_fuel (0, 0, σC) ⟨rfl, rfl, 0, rfl, by omega⟩ (pm_fl (show 4 - Int.toNat 0 < 100000 by decide))
  obtain ⟨y1, y2, y3⟩ := y
  obtain ⟨q1, q2⟩ := hQ
  dsimp only at q1 q2
  subst q1 q2
  rw [e1, Option.bind_some]
