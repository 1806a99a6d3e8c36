/-! ===== best, bestWorth ===== -/
theorem R_best {σC σM σ τ : pm_M} (h : pm_R σC σM) (f : ∀ c, c ≠ 88 → c ≠ 81 → σ c = σC c) (f81 : ∀ j, j ≠ 8 → j ≠ 9 → σ 81 j = σC 81 j) (m : ∀ c, c ≠ 27 → c ≠ 0 → τ c = σM c) (m0 : ∀ j, j ≠ 34 → j ≠ 35 → τ 0 j = σM 0 j) : pm_R σ τ := by
  obtain ⟨hrf, hrg, hmo, hor, hol, hwe, ⟨t1, t2, t3, t4, t5, t6⟩, hmr, htr, hx⟩ := h
  have m25 : τ 25 = σM 25 := m 25 (by decide) (by decide)
  refine ⟨?_, ?_, ?_, ?_, ?_, ?_, ⟨?_, ?_, ?_, ?_, ?_, ?_⟩, ?_, ?_, ?_⟩
  · unfold R_rf at hrf ⊢
    rw [f 93 (by decide) (by decide), m 1 (by decide) (by decide)]
    exact hrf
  · unfold R_rag at hrg ⊢
    rw [f 11 (by decide) (by decide), f 12 (by decide) (by decide), f 13 (by decide) (by decide), f 14 (by decide) (by decide), m 3 (by decide) (by decide), m 4 (by decide) (by decide), m 5 (by decide) (by decide), m 6 (by decide) (by decide)]
    exact hrg
  · unfold R_mon at hmo ⊢
    rw [f 91 (by decide) (by decide), f 92 (by decide) (by decide), f 0 (by decide) (by decide), m0 19 (by decide) (by decide), m0 18 (by decide) (by decide), m 7 (by decide) (by decide), m 8 (by decide) (by decide)]
    exact hmo
  · unfold R_ord at hor ⊢
    rw [f81 6 (by decide) (by decide), f 82 (by decide) (by decide), f 83 (by decide) (by decide), f 84 (by decide) (by decide), f 85 (by decide) (by decide), f 86 (by decide) (by decide), f 87 (by decide) (by decide), m0 17 (by decide) (by decide), m 16 (by decide) (by decide), m 17 (by decide) (by decide), m 18 (by decide) (by decide), m 19 (by decide) (by decide), m 20 (by decide) (by decide), m 21 (by decide) (by decide)]
    exact hor
  · unfold R_old at hol ⊢
    rw [f 90 (by decide) (by decide), m 24 (by decide) (by decide)]
    exact hol
  · unfold R_wea at hwe ⊢
    rw [f 3 (by decide) (by decide), f 4 (by decide) (by decide), f 5 (by decide) (by decide), f 7 (by decide) (by decide), f 8 (by decide) (by decide), f 9 (by decide) (by decide), m 2 (by decide) (by decide)]
    exact hwe
  · exact T_num_cg t1 (by rw [f 15 (by decide) (by decide)]) (fun i _ => by rw [f _ (by omega) (by omega)]) (by rw [m25]) (fun j _ _ => by rw [m25])
  · exact T_bea_cg t2 (fun k _ _ => f _ (by omega) (by omega)) (fun j _ _ => by rw [m25])
  · exact T_mou_cg t3 (by rw [f 15 (by decide) (by decide)]) (fun k _ _ => f _ (by omega) (by omega)) (m0 16 (by decide) (by decide)) (m 11 (by decide) (by decide))
  · exact T_pos_cg t4 (by rw [f 15 (by decide) (by decide)]) (by rw [f _ (by omega) (by omega)]) (f _ (by omega) (by omega)) (fun k _ _ => f _ (by omega) (by omega)) (m0 20 (by decide) (by decide)) (by rw [m25]) (fun j _ _ => by rw [m25])
  · exact T_vat_cg t5 (by rw [f _ (by omega) (by omega)]) (fun k _ _ => f _ (by omega) (by omega)) (m 14 (by decide) (by decide)) (m 15 (by decide) (by decide)) (by rw [m25]) (fun j _ _ => by rw [m25])
  · exact T_hea_cg t6 (by rw [f 15 (by decide) (by decide)]) (fun k _ _ => f _ (by omega) (by omega)) (m0 15 (by decide) (by decide)) (m 9 (by decide) (by decide)) (m 10 (by decide) (by decide)) (by rw [m25]) (fun j _ => by rw [m25])
  · unfold R_mrk at hmr ⊢
    rw [f 24 (by decide) (by decide), f 25 (by decide) (by decide), f 26 (by decide) (by decide), f 28 (by decide) (by decide), f 29 (by decide) (by decide), f 38 (by decide) (by decide), f 40 (by decide) (by decide), f 42 (by decide) (by decide), m 12 (by decide) (by decide), m 13 (by decide) (by decide), m 22 (by decide) (by decide), m 23 (by decide) (by decide)]
    exact hmr
  · rw [m0 32 (by decide) (by decide)]; exact htr
  · rw [f 42 (by decide) (by decide)]; exact hx
/-- a set against the best one: the class -/
theorem e_bet {σ : pm_M} {s s0 : Int} {x x0 : Nat} (hs : 0 ≤ s ∧ s ≤ 159840) (hs0 : 0 ≤ s0 ∧ s0 ≤ 159840) (hx : x < 4096) (hx0 : x0 < 4096) (h8 : σ 81 8 = x0) (h9 : σ 81 9 = s0) : fX5_isBetter s x σ = some (if s0 < s ∨ (s = s0 ∧ (pc x < pc x0 ∨ (pc x = pc x0 ∧ x < x0))) then 1 else 0) := by
  have b1 := pc_b x
  have b2 := pc_b x0
  unfold fX5_isBetter
  rw [h8, h9, bc_at hx, bc_at hx0, Option.bind_some, Option.bind_some]
  unfold fJ6_compare_7cf53
  by_cases c1 : s = s0
  · by_cases c2 : pc x = pc x0
    · by_cases c3 : x < x0
      · simp (disch := omega) only [wr_eq, if_pos, if_neg, if_true, if_false, Option.bind_some]
      · simp (disch := omega) only [wr_eq, if_pos, if_neg, if_true, if_false, Option.bind_some]
    · by_cases c3 : pc x < pc x0
      · simp (disch := omega) only [wr_eq, if_pos, if_neg, if_true, if_false, Option.bind_some]
      · simp (disch := omega) only [wr_eq, if_pos, if_neg, if_true, if_false, Option.bind_some]
  · by_cases c2 : s ≤ s0
    · simp (disch := omega) only [wr_eq, if_pos, if_neg, if_true, if_false]
    · simp (disch := omega) only [wr_eq, if_pos, if_neg, if_true, if_false]
section BE
variable {σC σM σ1 τ1 : pm_M} {T k : Nat} {R : Nat → Nat} {n d : Int}
set_option maxHeartbeats 8000000 in
theorem e_plan (hor : R_ord σC σM) (hT : σC 81 6 = T) (hk8 : k ≤ 8) (hR : ∀ i, i < k → σ1 88 i = R i ∧ τ1 27 i = R i) (hR1 : ∀ i, i < k → R i < T) (hR2 : ∀ i j, i < j → j < k → R i ≠ R j)
    (hs : ∀ c, c ≠ 88 → c ≠ 81 → σ1 c = σC c) (hs81 : ∀ j, j ≠ 8 → j ≠ 9 → σ1 81 j = σC 81 j) (hm : ∀ c, c ≠ 27 → c ≠ 0 → τ1 c = σM c) (hm0 : ∀ j, j ≠ 34 → j ≠ 35 → τ1 0 j = σM 0 j) (hn : 1 ≤ n ∧ n ≤ 9600) (hd : 0 ≤ d ∧ d ≤ 100) (ht : fX12_today σM = some d) (z8 : σ1 81 8 = 0) (z9 : σ1 81 9 = 0) (z34 : τ1 0 34 = 0) (z35 : τ1 0 35 = 0) :
    ∃ y y', pm_it (fun a : Int × pm_M => bdX5_plan_18 n (d + 1) k a.1 a.2) pm_fuel (1, σ1) = some y ∧ pm_it (fun a : Int × Int × pm_M => bdX12_bests_134 n k a.1 a.2.1 a.2.2) pm_fuel (0, 1, τ1) = some y' ∧ (∀ c, c ≠ 88 → c ≠ 81 → y.2 c = σC c) ∧ (∀ j, j ≠ 8 → j ≠ 9 → y.2 81 j = σC 81 j) ∧ (∀ c, c ≠ 27 → c ≠ 0 → y'.2.2 c = σM c) ∧ (∀ j, j ≠ 34 → j ≠ 35 → y'.2.2 0 j = σM 0 j) ∧ y.2 81 8 = y'.2.2 0 34 ∧ y.2 81 9 = y'.2.2 0 35 := by
  have ek := sh_at hk8
  have hp : 2 ^ k ≤ 256 := by
    have : 2 ^ k ≤ 2 ^ 8 := Nat.pow_le_pow_right (by decide) hk8
    omega
  have hp0 : 0 < 2 ^ k := Nat.pow_pos (by decide)
  generalize hK : 2 ^ k = K at ek hp hp0
  obtain ⟨y, y', e1, e2, hQ⟩ := pm_it_2 (f := fun a : Int × pm_M => bdX5_plan_18 n (d + 1) k a.1 a.2) (g := fun a : Int × Int × pm_M => bdX12_bests_134 n k a.1 a.2.1 a.2.2)
    (fun m a a' => ∃ z : Nat, a.1 = z ∧ a'.2.1 = z ∧ z ≤ K ∧ m = K - z ∧ (∀ c, c ≠ 81 → a.2 c = σ1 c) ∧ (∀ j, j ≠ 8 → j ≠ 9 → a.2 81 j = σC 81 j) ∧ (∀ c, c ≠ 0 → a'.2.2 c = τ1 c) ∧ (∀ j, j ≠ 34 → j ≠ 35 → a'.2.2 0 j = σM 0 j) ∧ ∃ (x : Nat) (s : Int), x < 4096 ∧ 0 ≤ s ∧ s ≤ 159840 ∧ a.2 81 8 = x ∧ a'.2.2 0 34 = x ∧ a.2 81 9 = s ∧ a'.2.2 0 35 = s ∧ a'.1 = pc x)
    (fun y y' => (∀ c, c ≠ 81 → y.2 c = σ1 c) ∧ (∀ j, j ≠ 8 → j ≠ 9 → y.2 81 j = σC 81 j) ∧ (∀ c, c ≠ 0 → y'.2.2 c = τ1 c) ∧ (∀ j, j ≠ 34 → j ≠ 35 → y'.2.2 0 j = σM 0 j) ∧ y.2 81 8 = y'.2.2 0 34 ∧ y.2 81 9 = y'.2.2 0 35) (by
      rintro m ⟨z0, σ⟩ ⟨w0, z0', τ⟩ ⟨z, hz, hz', hle, hmm, g1, g2, g3, g4, x0, s0, q1, q2, q3, q4, q5, q6, q7, q8⟩
      dsimp only at hz hz' g1 g2 g3 g4 q4 q5 q6 q7 q8 ⊢
      subst hz hz' q8
      by_cases c : z = K
      · subst c
        refine Or.inl ⟨((z : Int), σ), (((pc x0 : Nat) : Int), (z : Int), τ), ?_, ?_, g1, g2, g3, g4, by dsimp only; omega, by dsimp only; omega⟩
        · unfold bdX5_plan_18
          rw [ek, if_pos (Int.le_refl _)]
        · unfold bdX12_bests_134
          rw [ek, if_pos (Int.le_refl _)]
      · have kw : ¬ wr (K : Int) ≤ wr (z : Int) := by rw [wr_eq (by omega) (by omega), wr_eq (by omega) (by omega)]; omega
        have ht' : fX12_today τ = some d := by
          unfold fX12_today at ht ⊢
          rw [g3 25 (by decide), hm 25 (by decide) (by decide)]
          exact ht
        obtain ⟨y, y', w1, w2, w3⟩ := w_set (y4 := ((pc x0 : Nat) : Int)) (ch := (z : Int)) (σ := σ) (τ := τ) (R := R) hor hT hk8 (fun i hi => by rw [g1 88 (by decide), g3 27 (by decide)]; exact hR i hi) hR1 hR2 (fun c h1 h2 => by rw [g1 c h2]; exact hs c h1 h2) (fun c h1 h2 => by rw [g3 c h2]; exact hm c h1 h2) hn hd ht'
        have b0 := pc_b x0
        rcases w3 with ⟨⟨q, hq⟩, w3⟩ | ⟨r, s, i, x, w3, w4, w5, w6, w7, w8, w9, w10⟩
        · subst hq
          refine Or.inr ⟨((z : Int) + 1, σ), (((pc x0 : Nat) : Int), (z : Int) + 1, τ), m - 1, ?_, ?_, by omega, z + 1, by simp, by simp, by omega, by omega, g1, g2, g3, g4, x0, s0, q1, q2, q3, q4, q5, q6, q7, rfl⟩
          · unfold bdX5_plan_18 fX5_weigh
            rw [ek, if_neg kw, w1]
            rfl
          · unfold bdX12_bests_134
            rw [ek, if_neg kw, w2, Option.bind_some, w3, if_pos wr_0]
        · subst w3
          have b1 := pc_b x
          have eb := e_bet (σ := σ) (s := s) (s0 := s0) (x := x) (x0 := x0) ⟨w5, w6⟩ ⟨q2, q3⟩ w4 q1 q4 q6
          by_cases cB : s0 < s ∨ (s = s0 ∧ (pc x < pc x0 ∨ (pc x = pc x0 ∧ x < x0)))
          · rw [if_pos cB] at eb
            refine Or.inr ⟨((z : Int) + 1, pm_up (pm_up σ 81 9 s) 81 8 x), (((pc x : Nat) : Int), (z : Int) + 1, pm_up (pm_up τ 0 34 x) 0 35 s), m - 1, ?_, ?_, by omega, z + 1, by simp, by simp, by omega, by omega, ?_, ?_, ?_, ?_, x, s, w4, w5, w6, ?_, ?_, ?_, ?_, rfl⟩
            · unfold bdX5_plan_18 fX5_weigh
              rw [ek, if_neg kw, w1, Option.bind_some]
              dsimp only
              rw [eb, Option.bind_some, if_neg (by decide), Option.bind_some]
            · unfold bdX12_bests_134 jnX12_bests_326l134
              rw [ek, if_neg kw, w2, Option.bind_some, w7, w8, w9, w10, q5, q7, if_neg (by decide)]
              by_cases c2 : s = s0
              · by_cases c3 : pc x = pc x0
                · simp (disch := omega) only [wr_eq, if_pos, if_neg, if_true, if_false]
                · simp (disch := omega) only [wr_eq, if_pos, if_neg, if_true, if_false]
              · simp (disch := omega) only [wr_eq, if_pos, if_neg, if_true, if_false]
            · intro c hc
              dsimp only
              simp (disch := omega) only [pu_o]
              exact g1 c hc
            · intro j h1 h2
              dsimp only
              simp (disch := omega) only [pu_ne]
              exact g2 j h1 h2
            · intro c hc
              dsimp only
              simp (disch := omega) only [pu_o]
              exact g3 c hc
            · intro j h1 h2
              dsimp only
              simp (disch := omega) only [pu_ne]
              exact g4 j h1 h2
            · dsimp only
              simp (disch := omega) only [pu_eq]
            · dsimp only
              simp (disch := omega) only [pu_ne, pu_eq]
            · dsimp only
              simp (disch := omega) only [pu_ne, pu_eq]
            · dsimp only
              simp (disch := omega) only [pu_eq]
          · rw [if_neg cB] at eb
            refine Or.inr ⟨((z : Int) + 1, σ), (((pc x0 : Nat) : Int), (z : Int) + 1, τ), m - 1, ?_, ?_, by omega, z + 1, by simp, by simp, by omega, by omega, g1, g2, g3, g4, x0, s0, q1, q2, q3, q4, q5, q6, q7, rfl⟩
            · unfold bdX5_plan_18 fX5_weigh
              rw [ek, if_neg kw, w1, Option.bind_some]
              dsimp only
              rw [eb, Option.bind_some, if_pos wr_0, Option.bind_some]
            · unfold bdX12_bests_134 jnX12_bests_326l134
              rw [ek, if_neg kw, w2, Option.bind_some, w7, w8, w9, w10, q5, q7, if_neg (by decide)]
              by_cases c2 : s = s0
              · by_cases c3 : pc x = pc x0
                · simp (disch := omega) only [wr_eq, if_pos, if_neg, if_true, if_false]
                · simp (disch := omega) only [wr_eq, if_pos, if_neg, if_true, if_false]
              · simp (disch := omega) only [wr_eq, if_pos, if_neg, if_true, if_false]) pm_fuel (K - 1) (1, σ1) (0, 1, τ1)
    ⟨1, rfl, rfl, by omega, rfl, fun _ _ => rfl, hs81, fun _ _ => rfl, hm0, 0, 0, by decide, Int.le_refl _, by decide, z8, z34, z9, z35, rfl⟩ (pm_fl (by omega))
  exact ⟨y, y', e1, e2, fun c h1 h2 => by rw [hQ.1 c h2]; exact hs c h1 h2, hQ.2.1, fun c h1 h2 => by rw [hQ.2.2.1 c h2]; exact hm c h1 h2, hQ.2.2.2.1, hQ.2.2.2.2.1, hQ.2.2.2.2.2⟩
end BE
set_option maxHeartbeats 4000000 in
/-- what both calls do -/
theorem b_both {σC σM : pm_M} {a : Int} (h : pm_R σC σM) (w1 : wr a = a) : (∃ (x : Int) (τ : pm_M), (x = -3 ∨ x = -4 ∨ x = -6) ∧ fX11_planRefusal a σC = some x ∧ fX12_bests a σM = some (x, τ) ∧ pm_R σC τ) ∨ (fX11_planRefusal a σC = some 0 ∧ ∃ (q : Int) (σ τ : pm_M), fX10_today 15 σC = some q ∧ fX5_plan a (q + 1) σC = some σ ∧ fX12_bests a σM = some (0, τ) ∧ pm_R σ τ ∧ σ 81 8 = τ 0 34 ∧ σ 81 9 = τ 0 35) := by
  obtain ⟨n1, n2, n3, n4⟩ := h.2.2.2.2.2.2.1.1
  have hor := h.2.2.2.1
  obtain ⟨o1, o2, o3, o4⟩ := id hor
  obtain ⟨T, hT⟩ := Int.eq_ofNat_of_zero_le o2
  obtain ⟨k, z, σ, τ, R, e1, e2, e3, e4, e5, e6, e7, e8, e9⟩ := e_sort (x1 := a) hor hT
  have eo := e_open hor hT
  rw [← e3] at eo
  have R1 : pm_R σC τ := R_best h (fun _ _ _ => rfl) (fun _ _ _ => rfl) (fun c h1 _ => e6 c h1) (fun j _ _ => by rw [e6 0 (by decide)])
  unfold fX11_planRefusal fX12_bests
  rw [eo, Option.bind_some, e2, Option.bind_some, w1, e_wrong w1 wr_1, wr_eq (x := 9600) (by decide) (by decide), wr_eq (x := (k : Int)) (by omega) (by omega)]
  by_cases c1 : (k : Int) ≤ 8
  · rw [if_pos c1, if_pos c1]
    by_cases c2 : 1 ≤ a
    · rw [if_pos c2, if_pos c2]
      by_cases c3 : a ≤ 9600
      · rw [if_pos c3, if_pos c3, Option.bind_some, if_pos wr_0]
        right
        refine ⟨rfl, ?_⟩
        have ed : Int.tdiv (wr (σC 15 7)) 24 = σC 15 7 / 24 := by
          rw [wr_eq (by omega) (by omega), Int.tdiv_eq_ediv_of_nonneg (by omega)]
        have et : fX10_today 15 σC = some (σC 15 7 / 24) := by
          unfold fX10_today
          rw [ed]
        have etM : fX12_today σM = some (σC 15 7 / 24) := by
          unfold fX12_today
          rw [show σM 25 (Int.toNat 751) = σC 15 7 from n1.symm, ed]
        obtain ⟨y, y', p1, p2, p3, p4, p5, p6, p7, p8⟩ := e_plan (σ1 := pm_up (pm_up σ 81 8 0) 81 9 0) (τ1 := pm_up (pm_up τ 0 34 0) 0 35 0) (R := R) (n := a) (d := σC 15 7 / 24) hor hT (by omega)
          (fun i hi => by rw [pu_ne (by omega), pu_ne (by omega), pu_ne (by omega), pu_ne (by omega)]; exact e7 i hi) e8 e9
          (fun c q1 q2 => by rw [pu_o q2, pu_o q2]; exact e5 c q1) (fun j q1 q2 => by rw [pu_ne (by omega), pu_ne (by omega), e5 81 (by decide)])
          (fun c q1 q2 => by rw [pu_o q2, pu_o q2]; exact e6 c q1) (fun j q1 q2 => by rw [pu_ne (by omega), pu_ne (by omega), e6 0 (by decide)]) ⟨c2, c3⟩ (by omega) etM
          (by rw [pu_ne (by omega), pu_eq ⟨rfl, rfl⟩]) (pu_eq ⟨rfl, rfl⟩) (by rw [pu_ne (by omega), pu_eq ⟨rfl, rfl⟩]) (pu_eq ⟨rfl, rfl⟩)
        refine ⟨σC 15 7 / 24, y.2, y'.2.2, et, ?_, ?_, R_best h p3 p4 p5 p6, p7, p8⟩
        · unfold fX5_plan
          rw [e1, Option.bind_some]
          dsimp only
          rw [p1, Option.bind_some]
        · dsimp only
          rw [p2, Option.bind_some]
      · rw [if_neg c3, if_neg c3, Option.bind_some, if_neg (by decide)]
        exact Or.inl ⟨-6, τ, by omega, rfl, rfl, R1⟩
    · rw [if_neg c2, if_neg c2, Option.bind_some, if_neg (by decide)]
      exact Or.inl ⟨-4, τ, by omega, rfl, rfl, R1⟩
  · rw [if_neg c1, if_neg c1]
    exact Or.inl ⟨-3, τ, by omega, rfl, rfl, R1⟩
theorem s_best : sp_best pm_R := by
  intro x1 σC σM h
  show pp_ pm_R _ _
  have w1 := wr_to x1
  generalize x1.toInt = a at w1 ⊢
  unfold fX11_best fX12_best
  rcases b_both h w1 with ⟨x, τ, hx, e1, e2, e3⟩ | ⟨e1, q, σ, τ, e2, e3, e4, e5, e6, e7⟩
  · rw [e1, e2, Option.bind_some, Option.bind_some]
    dsimp only
    rcases hx with rfl | rfl | rfl
    · rw [if_neg (by decide), if_neg (by decide)]
      exact pp_ref e3 (by decide)
    · rw [if_neg (by decide), if_neg (by decide)]
      exact pp_ref e3 (by decide)
    · rw [if_neg (by decide), if_neg (by decide)]
      exact pp_ref e3 (by decide)
  · rw [e1, e4, Option.bind_some, Option.bind_some, if_pos wr_0, if_pos wr_0, e2, Option.bind_some, e3, Option.bind_some]
    exact pp_ret e6 e5
theorem s_bestWorth : sp_bestWorth pm_R := by
  intro x1 σC σM h
  show pp_ pm_R _ _
  have w1 := wr_to x1
  generalize x1.toInt = a at w1 ⊢
  unfold fX11_bestWorth fX12_bestWorth
  rcases b_both h w1 with ⟨x, τ, hx, e1, e2, e3⟩ | ⟨e1, q, σ, τ, e2, e3, e4, e5, e6, e7⟩
  · rw [e1, e2, Option.bind_some, Option.bind_some]
    dsimp only
    rcases hx with rfl | rfl | rfl
    · rw [if_neg (by decide), if_neg (by decide)]
      exact pp_ref e3 (by decide)
    · rw [if_neg (by decide), if_neg (by decide)]
      exact pp_ref e3 (by decide)
    · rw [if_neg (by decide), if_neg (by decide)]
      exact pp_ref e3 (by decide)
  · rw [e1, e4, Option.bind_some, Option.bind_some, if_pos wr_0, if_pos wr_0, e2, Option.bind_some, e3, Option.bind_some]
    exact pp_ret e7 e5
