/-! ===== foretelling: the dream becomes the works ===== -/
theorem cp_r {σ : pm_M} {a b n i : Nat} (h : i < n) : pm_cp σ a 0 b 0 n b i = σ a i := by
  rw [cp_e, if_pos ⟨Nat.zero_le _, by omega⟩, Nat.zero_add, Nat.sub_zero]
theorem e_cr {r0 r1 n : Nat} (hn : n ≤ 2000) (σ : pm_M) : fX11_copyRow r0 n r1 n σ = some (pm_cp σ r0 0 r1 0 n) := by
  unfold fX11_copyRow pm_min
  have e : wr (if wr (n : Int) < wr (n : Int) then (n : Int) else (n : Int)) = n := by
    rw [if_neg (by omega)]
    exact wr_eq (by omega) (by omega)
  rw [e, pm_gt (by omega), Int.toNat_natCast]
  rfl
/-- the cells that both Works have -/
def dk (k i : Nat) : Prop := (k = 0 ∧ i = 7) ∨ (k = 1 ∧ i < 9) ∨ (3 ≤ k ∧ k ≤ 6 ∧ i < 4) ∨ (k = 7 ∧ i = 3) ∨ (k = 8 ∧ i < 4) ∨ (k = 9 ∧ i < 48) ∨ (k = 10 ∧ i < 8) ∨ (k = 11 ∧ 8 ≤ i ∧ i ≤ 11) ∨ (15 ≤ k ∧ k ≤ 21 ∧ i < 80) ∨ (k = 22 ∧ i = 8) ∨ (23 ≤ k ∧ k ≤ 26 ∧ i < 3) ∨ (k = 28 ∧ 5 ≤ i ∧ i ≤ 6) ∨ (29 ≤ k ∧ k ≤ 32 ∧ i < 40)
set_option maxHeartbeats 8000000 in
theorem e_become (σ : pm_M) : ∃ σ', fX10_become σ = some σ' ∧ (∀ c, (c < 48 ∨ 80 < c) → σ' c = σ c) ∧ (∀ k i, dk k i → σ' (48 + k) i = σ (15 + k) i) := by
  unfold fX10_become fX1_copyFrom fX0_copyFrom fX3_copyFrom fX6_copyFrom fX8_copyFrom
  simp (disch := decide) only [e_cr, Option.bind_some]
  refine ⟨_, rfl, fun c hc => ?_, fun k i h => ?_⟩
  · simp (disch := omega) only [cp_o, pu_o]
  · unfold dk at h
    rcases h with ⟨rfl, rfl⟩ | ⟨rfl, h⟩ | ⟨h1, h2, h⟩ | ⟨rfl, rfl⟩ | ⟨rfl, h⟩ | ⟨rfl, h⟩ | ⟨rfl, h⟩ | ⟨rfl, h1, h2⟩ | ⟨h1, h2, h⟩ | ⟨rfl, rfl⟩ | ⟨h1, h2, h⟩ | ⟨rfl, h1, h2⟩ | ⟨h1, h2, h⟩
    · simp (disch := omega) only [cp_o, pu_o, pu_ne, pu_eq, cp_r]
    · simp (disch := omega) only [Nat.reduceAdd, cp_o, pu_o, pu_ne, pu_eq, cp_r]
    · rcases (show k = 3 ∨ k = 4 ∨ k = 5 ∨ k = 6 by omega) with rfl | rfl | rfl | rfl <;> simp (disch := omega) only [Nat.reduceAdd, cp_o, pu_o, pu_ne, pu_eq, cp_r]
    · simp (disch := omega) only [Nat.reduceAdd, cp_o, pu_o, pu_ne, pu_eq, cp_r]
    · simp (disch := omega) only [Nat.reduceAdd, cp_o, pu_o, pu_ne, pu_eq, cp_r]
    · simp (disch := omega) only [Nat.reduceAdd, cp_o, pu_o, pu_ne, pu_eq, cp_r]
    · simp (disch := omega) only [Nat.reduceAdd, cp_o, pu_o, pu_ne, pu_eq, cp_r]
    · rcases (show i = 8 ∨ i = 9 ∨ i = 10 ∨ i = 11 by omega) with rfl | rfl | rfl | rfl <;> simp (disch := omega) only [Nat.reduceAdd, cp_o, pu_o, pu_ne, pu_eq, cp_r]
    · rcases (show k = 15 ∨ k = 16 ∨ k = 17 ∨ k = 18 ∨ k = 19 ∨ k = 20 ∨ k = 21 by omega) with rfl | rfl | rfl | rfl | rfl | rfl | rfl <;> simp (disch := omega) only [Nat.reduceAdd, cp_o, pu_o, pu_ne, pu_eq, cp_r]
    · simp (disch := omega) only [Nat.reduceAdd, cp_o, pu_o, pu_ne, pu_eq, cp_r]
    · rcases (show k = 23 ∨ k = 24 ∨ k = 25 ∨ k = 26 by omega) with rfl | rfl | rfl | rfl <;> simp (disch := omega) only [Nat.reduceAdd, cp_o, pu_o, pu_ne, pu_eq, cp_r]
    · rcases (show i = 5 ∨ i = 6 by omega) with rfl | rfl <;> simp (disch := omega) only [Nat.reduceAdd, cp_o, pu_o, pu_ne, pu_eq, cp_r]
    · rcases (show k = 29 ∨ k = 30 ∨ k = 31 ∨ k = 32 by omega) with rfl | rfl | rfl | rfl <;> simp (disch := omega) only [Nat.reduceAdd, cp_o, pu_o, pu_ne, pu_eq, cp_r]
theorem dkk {k i : Nat} (h : (k = 0 ∧ i = 7) ∨ (k = 1 ∧ i < 9) ∨ (3 ≤ k ∧ k ≤ 6 ∧ i < 4) ∨ (k = 7 ∧ i = 3) ∨ (k = 8 ∧ i < 4) ∨ (k = 9 ∧ i < 48) ∨ (k = 10 ∧ i < 8) ∨ (k = 11 ∧ 8 ≤ i ∧ i ≤ 11) ∨ (15 ≤ k ∧ k ≤ 21 ∧ i < 80) ∨ (k = 22 ∧ i = 8) ∨ (23 ≤ k ∧ k ≤ 26 ∧ i < 3) ∨ (k = 28 ∧ 5 ≤ i ∧ i ≤ 6) ∨ (29 ≤ k ∧ k ≤ 32 ∧ i < 40)) : dk k i := h
set_option maxHeartbeats 8000000 in
theorem R_tim_dream {σC σM σ τ : pm_M} (h : R_tim 15 σC σM) (hc : ∀ k i, dk k i → σ (48 + k) i = σC (15 + k) i) (m : ∀ c, c ≠ 26 → c ≠ 0 → τ c = σM c) (m0 : ∀ j, j ≠ 32 → τ 0 j = σM 0 j) : R_tim 48 σ τ := by
  obtain ⟨⟨n1, n2, n3, n4⟩, t2, ⟨u1, u2, u3, u4, u5, u6⟩, ⟨p1, p2, p3, p4, p5, p6, p7, p8, p9, p10, p11⟩, ⟨v1, v2, v3⟩, ⟨k1, k2, k3, k4, k5, k6⟩⟩ := h
  have c0 : σ 48 7 = σC 15 7 := hc 0 7 (dkk (by omega))
  have c7 : σ (48 + 7) 3 = σC (15 + 7) 3 := hc 7 3 (dkk (by omega))
  have c8 : σ (48 + 11) 8 = σC (15 + 11) 8 := hc 11 8 (dkk (by omega))
  have c9 : σ (48 + 11) 9 = σC (15 + 11) 9 := hc 11 9 (dkk (by omega))
  have c10 : σ (48 + 11) 10 = σC (15 + 11) 10 := hc 11 10 (dkk (by omega))
  have c11 : σ (48 + 11) 11 = σC (15 + 11) 11 := hc 11 11 (dkk (by omega))
  have c22 : σ (48 + 22) 8 = σC (15 + 22) 8 := hc 22 8 (dkk (by omega))
  have c28 : σ (48 + 28) 5 = σC (15 + 28) 5 := hc 28 5 (dkk (by omega))
  have c29 : σ (48 + 28) 6 = σC (15 + 28) 6 := hc 28 6 (dkk (by omega))
  have m25 : τ 25 = σM 25 := m 25 (by decide) (by decide)
  refine ⟨?_, ?_, ?_, ?_, ?_, ?_⟩
  · unfold T_num
    rw [c0, m25]
    refine ⟨n1, n2, n3, fun i hi => ?_⟩
    rw [hc 1 i (dkk (by omega))]
    exact n4 i hi
  · intro i hi
    rw [hc 3 i (dkk (by omega)), hc 4 i (dkk (by omega)), hc 5 i (dkk (by omega)), hc 6 i (dkk (by omega)), m25]
    exact t2 i hi
  · unfold T_mou
    rw [c7, c0, m0 16 (by decide), m 11 (by decide) (by decide)]
    refine ⟨u1, u2, u3, fun i hi => ?_, fun i hi => ?_, fun i hi => ?_⟩
    · rw [hc 8 i (dkk (by omega))]; exact u4 i hi
    · rw [hc 9 i (dkk (by omega))]; exact u5 i hi
    · rw [hc 10 i (dkk (by omega))]; exact u6 i hi
  · unfold T_pos
    rw [c8, c9, c10, c11, c0, c7, m25, m0 20 (by decide)]
    refine ⟨p1, p2, p3, p4, p5, p6, p7, p8, fun i hi => ?_, fun i j h1 h2 h3 => ?_, fun i j h1 h2 => ?_⟩
    · rw [hc 15 i (dkk (by omega)), hc 16 i (dkk (by omega)), hc 17 i (dkk (by omega)), hc 18 i (dkk (by omega)), hc 19 i (dkk (by omega)), hc 20 i (dkk (by omega)), hc 21 i (dkk (by omega))]
      exact p9 i hi
    · rw [hc 19 i (dkk (by omega)), hc 19 j (dkk (by omega))]
      exact p10 i j h1 h2 h3
    · rw [hc 17 i (dkk (by omega)), hc 17 j (dkk (by omega))]
      exact p11 i j h1 h2
  · unfold T_vat
    rw [c22, c7, m25, m 14 (by decide) (by decide), m 15 (by decide) (by decide)]
    refine ⟨fun v hv => ?_, fun v w hv hw hne => ?_, v3⟩
    · rw [hc 23 v (dkk (by omega)), hc 24 v (dkk (by omega)), hc 25 v (dkk (by omega)), hc 26 v (dkk (by omega))]
      exact v1 v hv
    · rw [hc 23 v (dkk (by omega)), hc 23 w (dkk (by omega))]
      exact v2 v w hv hw hne
  · unfold T_hea
    rw [c28, c29, c0, m25, m0 15 (by decide), m 9 (by decide) (by decide), m 10 (by decide) (by decide)]
    refine ⟨k1, k2, k3, k4, fun i hi h2 => ?_, fun i hi => ?_⟩
    · rw [hc 32 i (dkk (by omega))]; exact k5 i hi h2
    · rw [hc 29 i (dkk (by omega)), hc 30 i (dkk (by omega)), hc 31 i (dkk (by omega)), hc 32 i (dkk (by omega))]
      exact k6 i hi
set_option maxHeartbeats 8000000 in
theorem e_begins (τ : pm_M) : ∃ τ', fX12_begins τ = some τ' ∧ (∀ c, c ≠ 26 → c ≠ 0 → τ' c = τ c) ∧ (∀ j, j ≠ 32 → τ' 0 j = τ 0 j) ∧ τ' 0 32 = 1 ∧ (∀ j, j < 755 → τ' 26 j = τ 25 j) := by
  unfold fX12_begins
  obtain ⟨y, e1, hQ⟩ := pm_it_ok (f := fun a : Int × pm_M => bdX12_begins_2 a.1 a.2)
    (fun a => ∃ z : Nat, a.1 = z ∧ z ≤ 755 ∧ (∀ c, c ≠ 26 → a.2 c = τ c) ∧ (∀ j, j < z → a.2 26 j = τ 25 j))
    (fun y => (∀ c, c ≠ 26 → y.2 c = τ c) ∧ (∀ j, j < 755 → y.2 26 j = τ 25 j)) (fun a => 755 - a.1.toNat) (by
      rintro ⟨z0, σ⟩ ⟨z, hz, hle, h1, h2⟩
      dsimp only at hz h1 h2 ⊢
      subst hz
      by_cases c : z = 755
      · subst c
        refine Or.inl ⟨(((755 : Nat) : Int), σ), ?_, h1, h2⟩
        unfold bdX12_begins_2
        simp (disch := omega) only [wr_eq, if_pos, if_true]
      · refine Or.inr ⟨((z : Int) + 1, pm_up σ 26 z (σ 25 z)), ?_, ⟨z + 1, by simp, by omega, fun c hc => by dsimp only; rw [pu_o hc]; exact h1 c hc, fun j hj => ?_⟩, by simp; omega⟩
        · unfold bdX12_begins_2
          simp (disch := omega) only [wr_eq, if_neg, if_false, pm_gt, Int.toNat_natCast]
        · dsimp only
          by_cases e : j = z
          · rw [pu_eq ⟨rfl, e⟩, e, h1 25 (by decide)]
          · rw [pu_ne (Or.inr e)]; exact h2 j (by omega)) pm_fuel (0, τ) ⟨0, rfl, by omega, fun _ _ => rfl, fun j hj => by omega⟩ (pm_fl (show 755 - Int.toNat 0 < 100000 by decide))
  rw [e1, Option.bind_some]
  obtain ⟨q1, q2⟩ := hQ
  refine ⟨_, rfl, fun c h1 h2 => by rw [pu_o h2]; exact q1 c h1, fun j hj => by rw [pu_ne (Or.inr hj), q1 0 (by decide)], pu_eq ⟨rfl, rfl⟩, fun j hj => by rw [pu_o (by decide)]; exact q2 j hj⟩
set_option maxHeartbeats 8000000 in
theorem e_ends (τ : pm_M) : ∃ τ', fX12_ends τ = some τ' ∧ (∀ c, c ≠ 25 → c ≠ 0 → τ' c = τ c) ∧ (∀ j, j ≠ 32 → τ' 0 j = τ 0 j) ∧ τ' 0 32 = 0 ∧ (∀ j, j < 755 → τ' 25 j = τ 26 j) := by
  unfold fX12_ends
  obtain ⟨y, e1, hQ⟩ := pm_it_ok (f := fun a : Int × pm_M => bdX12_ends_2 a.1 a.2)
    (fun a => ∃ z : Nat, a.1 = z ∧ z ≤ 755 ∧ (∀ c, c ≠ 25 → a.2 c = τ c) ∧ (∀ j, j < z → a.2 25 j = τ 26 j))
    (fun y => (∀ c, c ≠ 25 → y.2 c = τ c) ∧ (∀ j, j < 755 → y.2 25 j = τ 26 j)) (fun a => 755 - a.1.toNat) (by
      rintro ⟨z0, σ⟩ ⟨z, hz, hle, h1, h2⟩
      dsimp only at hz h1 h2 ⊢
      subst hz
      by_cases c : z = 755
      · subst c
        refine Or.inl ⟨(((755 : Nat) : Int), σ), ?_, h1, h2⟩
        unfold bdX12_ends_2
        simp (disch := omega) only [wr_eq, if_pos, if_true]
      · refine Or.inr ⟨((z : Int) + 1, pm_up σ 25 z (σ 26 z)), ?_, ⟨z + 1, by simp, by omega, fun c hc => by dsimp only; rw [pu_o hc]; exact h1 c hc, fun j hj => ?_⟩, by simp; omega⟩
        · unfold bdX12_ends_2
          simp (disch := omega) only [wr_eq, if_neg, if_false, pm_gt, Int.toNat_natCast]
        · dsimp only
          by_cases e : j = z
          · rw [pu_eq ⟨rfl, e⟩, e, h1 26 (by decide)]
          · rw [pu_ne (Or.inr e)]; exact h2 j (by omega)) pm_fuel (0, τ) ⟨0, rfl, by omega, fun _ _ => rfl, fun j hj => by omega⟩ (pm_fl (show 755 - Int.toNat 0 < 100000 by decide))
  rw [e1, Option.bind_some]
  obtain ⟨q1, q2⟩ := hQ
  refine ⟨_, rfl, fun c h1 h2 => by rw [pu_o h2]; exact q1 c h1, fun j hj => by rw [pu_ne (Or.inr hj), q1 0 (by decide)], pu_eq ⟨rfl, rfl⟩, fun j hj => by rw [pu_o (by decide)]; exact q2 j hj⟩
/-- nothing changes but what no one looks at -/
theorem R_same {σC σM σ τ : pm_M} (h : pm_R σC σM) (f : ∀ c, (c < 48 ∨ 80 < c) → σ c = σC c) (m : ∀ c, c ≠ 25 → c ≠ 26 → τ c = σM c) (m25 : ∀ j, j < 755 → τ 25 j = σM 25 j) : pm_R σ τ := by
  obtain ⟨hrf, hrg, hmo, hor, hol, hwe, ⟨t1, t2, t3, t4, t5, t6⟩, hmr, htr, hx⟩ := h
  refine ⟨?_, ?_, ?_, ?_, ?_, ?_, ⟨?_, ?_, ?_, ?_, ?_, ?_⟩, ?_, ?_, ?_⟩
  · unfold R_rf at hrf ⊢
    rw [f 93 (by decide), m 1 (by decide) (by decide)]
    exact hrf
  · unfold R_rag at hrg ⊢
    rw [f 11 (by decide), f 12 (by decide), f 13 (by decide), f 14 (by decide), m 3 (by decide) (by decide), m 4 (by decide) (by decide), m 5 (by decide) (by decide), m 6 (by decide) (by decide)]
    exact hrg
  · unfold R_mon at hmo ⊢
    rw [f 91 (by decide), f 92 (by decide), f 0 (by decide), m 0 (by decide) (by decide), m 7 (by decide) (by decide), m 8 (by decide) (by decide)]
    exact hmo
  · unfold R_ord at hor ⊢
    rw [f 81 (by decide), f 82 (by decide), f 83 (by decide), f 84 (by decide), f 85 (by decide), f 86 (by decide), f 87 (by decide), m 0 (by decide) (by decide), m 16 (by decide) (by decide), m 17 (by decide) (by decide), m 18 (by decide) (by decide), m 19 (by decide) (by decide), m 20 (by decide) (by decide), m 21 (by decide) (by decide)]
    exact hor
  · unfold R_old at hol ⊢
    rw [f 90 (by decide), m 24 (by decide) (by decide)]
    exact hol
  · unfold R_wea at hwe ⊢
    rw [f 3 (by decide), f 4 (by decide), f 5 (by decide), f 7 (by decide), f 8 (by decide), f 9 (by decide), m 2 (by decide) (by decide)]
    exact hwe
  · exact T_num_cg t1 (by rw [f 15 (by decide)]) (fun i _ => by rw [f _ (by omega)]) (m25 _ (by omega)) (fun j _ _ => m25 j (by omega))
  · exact T_bea_cg t2 (fun k _ _ => f _ (by omega)) (fun j _ _ => m25 j (by omega))
  · exact T_mou_cg t3 (by rw [f 15 (by decide)]) (fun k _ _ => f _ (by omega)) (by rw [m 0 (by decide) (by decide)]) (m 11 (by decide) (by decide))
  · exact T_pos_cg t4 (by rw [f 15 (by decide)]) (by rw [f _ (by omega)]) (f _ (by omega)) (fun k _ _ => f _ (by omega)) (by rw [m 0 (by decide) (by decide)]) (m25 _ (by omega)) (fun j _ _ => m25 j (by omega))
  · exact T_vat_cg t5 (by rw [f _ (by omega)]) (fun k _ _ => f _ (by omega)) (m 14 (by decide) (by decide)) (m 15 (by decide) (by decide)) (m25 _ (by omega)) (fun j _ _ => m25 j (by omega))
  · exact T_hea_cg t6 (by rw [f 15 (by decide)]) (fun k _ _ => f _ (by omega)) (by rw [m 0 (by decide) (by decide)]) (m 9 (by decide) (by decide)) (m 10 (by decide) (by decide)) (m25 _ (by omega)) (fun j _ => m25 j (by omega))
  · unfold R_mrk at hmr ⊢
    rw [f 24 (by decide), f 25 (by decide), f 26 (by decide), f 28 (by decide), f 29 (by decide), f 38 (by decide), f 40 (by decide), f 42 (by decide), m 12 (by decide) (by decide), m 13 (by decide) (by decide), m 22 (by decide) (by decide), m 23 (by decide) (by decide)]
    exact hmr
  · rw [m 0 (by decide) (by decide)]; exact htr
  · rw [f 42 (by decide)]; exact hx
/-- the dream begins -/
theorem h_dream {σC σM : pm_M} (h : pm_R σC σM) : ∃ σ τ : pm_M, fX10_become σC = some σ ∧ fX12_begins σM = some τ ∧ H_S 48 σ τ ∧ σ 48 7 = σC 15 7 ∧ σ 15 7 = σC 15 7 ∧ (∀ σ2 τ2, H_F 48 σ τ σ2 τ2 → ∃ τ3, fX12_ends τ2 = some τ3 ∧ pm_R σ2 τ3) := by
  obtain ⟨σ, a1, a2, a3⟩ := e_become σC
  obtain ⟨τ, b1, b2, b3, b4, b5⟩ := e_begins σM
  have hc0 : σ 48 7 = σC 15 7 := a3 0 7 (dkk (by omega))
  refine ⟨σ, τ, a1, b1, ⟨R_tim_dream h.2.2.2.2.2.2.1 a3 b2 b3, Or.inr b4, ?_, ?_⟩, hc0, by rw [a2 15 (by decide)], ?_⟩
  · have hwe := h.2.2.2.2.2.1
    unfold R_wea at hwe ⊢
    rw [a2 3 (by decide), a2 4 (by decide), a2 5 (by decide), a2 7 (by decide), a2 8 (by decide), a2 9 (by decide), b2 2 (by decide) (by decide)]
    exact hwe
  · have hrg := h.2.1
    unfold R_rag at hrg ⊢
    rw [a2 11 (by decide), a2 12 (by decide), a2 13 (by decide), a2 14 (by decide), b2 3 (by decide) (by decide), b2 4 (by decide) (by decide), b2 5 (by decide) (by decide), b2 6 (by decide) (by decide)]
    exact hrg
  · intro σ2 τ2 F
    obtain ⟨f1, f2, f3⟩ := F
    have f3 := f3 b4
    obtain ⟨τ3, c1, c2, c3, c4, c5⟩ := e_ends τ2
    refine ⟨τ3, c1, R_same h (fun c hc => by rw [f1 c (by omega), a2 c hc]) (fun c h1 h2 => ?_) (fun j hj => by rw [c5 j hj, f3 26 (by decide), b5 j hj])⟩
    by_cases e : c = 0
    · subst e
      funext j
      by_cases ej : j = 32
      · subst ej
        rw [c4]
        exact h.2.2.2.2.2.2.2.2.1.symm
      · rw [c3 j ej, f3 0 (by decide), b3 j ej]
    · rw [c2 c h1 e, f3 c h1, b2 c h2 e]
