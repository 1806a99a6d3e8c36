set_option maxHeartbeats 8000000 in
theorem m_open {τ : pm_M} {y2 : Int} {v g m : Nat} (hv : v < 3) (hg : g < 60) (hm : m < 8) : ∃ (z : Int) (τ' : pm_M), pm_it (fun a : Int × pm_M => bdX12_sheet_61 v y2 g m a.1 a.2) pm_fuel (0, τ) = some (z, τ') ∧ (∀ c, c ≠ 23 → τ' c = τ c) ∧ (∀ i, τ' 23 i = if 6 * (60 * v + g) ≤ i ∧ i < 6 * (60 * v + g) + 6 then τ 12 (6 * m + (i - 6 * (60 * v + g))) else τ 23 i) := by
  obtain ⟨y, e1, hQ⟩ := pm_it_ok (f := fun a : Int × pm_M => bdX12_sheet_61 v y2 g m a.1 a.2)
    (fun a => ∃ z : Nat, a.1 = z ∧ z ≤ 6 ∧ (∀ c, c ≠ 23 → a.2 c = τ c) ∧ (∀ i, a.2 23 i = if 6 * (60 * v + g) ≤ i ∧ i < 6 * (60 * v + g) + z then τ 12 (6 * m + (i - 6 * (60 * v + g))) else τ 23 i))
    (fun y => (∀ c, c ≠ 23 → y.2 c = τ c) ∧ (∀ i, y.2 23 i = if 6 * (60 * v + g) ≤ i ∧ i < 6 * (60 * v + g) + 6 then τ 12 (6 * m + (i - 6 * (60 * v + g))) else τ 23 i)) (fun a => 6 - a.1.toNat) (by
      rintro ⟨z0, σ⟩ ⟨z, hz, hle, h1, h2⟩
      dsimp only at hz h1 h2 ⊢
      subst hz
      by_cases c : z = 6
      · subst c
        refine Or.inl ⟨(((6 : Nat) : Int), σ), ?_, h1, h2⟩
        unfold bdX12_sheet_61
        simp (disch := omega) only [wr_eq, if_pos, if_true]
      · have i1 : Int.toNat (6 * (m : Int) + z) = 6 * m + z := by omega
        have i2 : Int.toNat (6 * (60 * (v : Int) + g) + z) = 6 * (60 * v + g) + z := by omega
        have s12 := h1 12 (by decide)
        refine Or.inr ⟨((z : Int) + 1, pm_up σ 23 (6 * (60 * v + g) + z) (τ 12 (6 * m + z))), ?_, ⟨z + 1, by simp, by omega, fun c hc => by dsimp only; rw [pu_o hc]; exact h1 c hc, fun i => ?_⟩, by simp; omega⟩
        · unfold bdX12_sheet_61
          simp (disch := omega) only [wr_eq, if_neg, if_false, pm_gt, i1, i2, s12]
        · dsimp only
          by_cases e : i = 6 * (60 * v + g) + z
          · rw [pu_eq ⟨rfl, e⟩, if_pos (by omega), show i - 6 * (60 * v + g) = z by omega]
          · rw [pu_ne (Or.inr e), h2 i]
            by_cases q : 6 * (60 * v + g) ≤ i ∧ i < 6 * (60 * v + g) + z
            · rw [if_pos q, if_pos (by omega)]
            · rw [if_neg q, if_neg (by omega)]) pm_fuel (0, τ) ⟨0, rfl, by omega, fun _ _ => rfl, fun i => by rw [if_neg (by omega)]⟩ (pm_fl (show 6 - Int.toNat 0 < 100000 by decide))
  exact ⟨y.1, y.2, e1, hQ.1, hQ.2⟩
set_option maxHeartbeats 8000000 in
theorem m_marks {τ : pm_M} {v P : Nat} (hv : v < 3) (hP : P < 80) (hf : τ 0 32 = 0) : ∃ (z : Int) (τ' : pm_M), pm_it (fun a : Int × pm_M => bdX12_sheet_275 v P a.1 a.2) pm_fuel (0, τ) = some (z, τ') ∧ (∀ c, c ≠ 22 → τ' c = τ c) ∧ (∀ i, τ' 22 i = if 360 * P ≤ i ∧ i < 360 * P + 360 then τ 23 (360 * v + (i - 360 * P)) else τ 22 i) := by
  obtain ⟨y, e1, hQ⟩ := pm_it_ok (f := fun a : Int × pm_M => bdX12_sheet_275 v P a.1 a.2)
    (fun a => ∃ z : Nat, a.1 = z ∧ z ≤ 360 ∧ (∀ c, c ≠ 22 → a.2 c = τ c) ∧ (∀ i, a.2 22 i = if 360 * P ≤ i ∧ i < 360 * P + z then τ 23 (360 * v + (i - 360 * P)) else τ 22 i))
    (fun y => (∀ c, c ≠ 22 → y.2 c = τ c) ∧ (∀ i, y.2 22 i = if 360 * P ≤ i ∧ i < 360 * P + 360 then τ 23 (360 * v + (i - 360 * P)) else τ 22 i)) (fun a => 360 - a.1.toNat) (by
      rintro ⟨z0, σ⟩ ⟨z, hz, hle, h1, h2⟩
      dsimp only at hz h1 h2 ⊢
      subst hz
      by_cases c : z = 360
      · subst c
        refine Or.inl ⟨(((360 : Nat) : Int), σ), ?_, h1, h2⟩
        unfold bdX12_sheet_275
        simp (disch := omega) only [wr_eq, if_pos, if_true]
      · have i1 : Int.toNat (360 * (P : Int) + z) = 360 * P + z := by omega
        have i2 : Int.toNat (360 * (v : Int) + z) = 360 * v + z := by omega
        have s23 := h1 23 (by decide)
        have s0 : σ 0 32 = 0 := by rw [h1 0 (by decide)]; exact hf
        refine Or.inr ⟨((z : Int) + 1, pm_up σ 22 (360 * P + z) (τ 23 (360 * v + z))), ?_, ⟨z + 1, by simp, by omega, fun c hc => by dsimp only; rw [pu_o hc]; exact h1 c hc, fun i => ?_⟩, by simp; omega⟩
        · unfold bdX12_sheet_275
          simp (disch := omega) only [s0, wr_eq, if_neg, if_pos, if_true, if_false, pm_gt, i1, i2, s23]
        · dsimp only
          by_cases e : i = 360 * P + z
          · rw [pu_eq ⟨rfl, e⟩, if_pos (by omega), show i - 360 * P = z by omega]
          · rw [pu_ne (Or.inr e), h2 i]
            by_cases q : 360 * P ≤ i ∧ i < 360 * P + z
            · rw [if_pos q, if_pos (by omega)]
            · rw [if_neg q, if_neg (by omega)]) pm_fuel (0, τ) ⟨0, rfl, by omega, fun _ _ => rfl, fun i => by rw [if_neg (by omega)]⟩ (pm_fl (show 360 - Int.toNat 0 < 100000 by decide))
  exact ⟨y.1, y.2, e1, hQ.1, hQ.2⟩
theorem m_marks1 {τ : pm_M} {v P : Int} (hf : τ 0 32 = 1) : pm_it (fun a : Int × pm_M => bdX12_sheet_275 v P a.1 a.2) pm_fuel (0, τ) = some (0, τ) := by
  show pm_it _ (99999 + 1) _ = _
  unfold pm_it
  have e : bdX12_sheet_275 v P 0 τ = some (.inl (0, τ)) := by
    unfold bdX12_sheet_275
    simp (disch := omega) only [hf, wr_eq, if_neg, if_pos, if_true, if_false]
  dsimp only
  rw [e]
  rfl
set_option maxHeartbeats 8000000 in
theorem m_jn {τ : pm_M} {v p k g P : Nat} (hv : v < 3) (hg : τ 25 (105 + 2 * v) = g) (hg60 : g < 60) (hP : τ 25 752 = P) (hP8 : P < 80) (hk : τ 15 v = k) (hf : τ 0 32 = 0 ∨ τ 0 32 = 1) : ∃ τ', jnX12_sheet_121 v p g τ = some τ' ∧ (∀ c, c ≠ 25 → c ≠ 22 → τ' c = τ c) ∧ (τ 0 32 = 1 → τ' 22 = τ 22) ∧ (τ 0 32 = 0 → ∀ i, τ' 22 i = if g = 59 ∧ 360 * P ≤ i ∧ i < 360 * P + 360 then τ 23 (360 * v + (i - 360 * P)) else τ 22 i) ∧ τ' 25 753 = τ 25 753 + 1 ∧ τ' 25 (105 + 2 * v) = (if g = 59 then 0 else (g : Int) + 1) ∧ τ' 25 752 = (if g = 59 then (P : Int) + 1 else P) ∧ (g = 59 → τ' 25 (111 + 8 * P) = 0 ∧ τ' 25 (112 + 8 * P) = p ∧ τ' 25 (113 + 8 * P) = k ∧ τ' 25 (114 + 8 * P) = τ 25 751 ∧ τ' 25 (115 + 8 * P) = -9 ∧ τ' 25 (116 + 8 * P) = 0 ∧ τ' 25 (117 + 8 * P) = -9 ∧ τ' 25 (118 + 8 * P) = -9) ∧ (∀ j, j ≠ 753 → j ≠ 105 + 2 * v → (g = 59 → j ≠ 752 ∧ (j < 111 + 8 * P ∨ 119 + 8 * P ≤ j)) → τ' 25 j = τ 25 j) := by
  have i1 : Int.toNat (105 + 2 * (v : Int)) = 105 + 2 * v := by omega
  by_cases c : g = 59
  · have j0 : Int.toNat (111 + 8 * (P : Int) + 0) = 111 + 8 * P := by omega
    have j1 : Int.toNat (111 + 8 * (P : Int) + 1) = 112 + 8 * P := by omega
    have j2 : Int.toNat (111 + 8 * (P : Int) + 2) = 113 + 8 * P := by omega
    have j3 : Int.toNat (111 + 8 * (P : Int) + 3) = 114 + 8 * P := by omega
    have j4 : Int.toNat (111 + 8 * (P : Int) + 4) = 115 + 8 * P := by omega
    have j5 : Int.toNat (111 + 8 * (P : Int) + 5) = 116 + 8 * P := by omega
    have j6 : Int.toNat (111 + 8 * (P : Int) + 6) = 117 + 8 * P := by omega
    have j7 : Int.toNat (111 + 8 * (P : Int) + 7) = 118 + 8 * P := by omega
    obtain ⟨q, hq⟩ : ∃ q, q = pm_up (pm_up (pm_up (pm_up (pm_up (pm_up (pm_up (pm_up (pm_up (pm_up (pm_up (pm_up τ 25 753 (τ 25 753 + 1)) 25 (105 + 2 * v) ((g : Int) + 1)) 25 (105 + 2 * v) 0) 25 752 ((P : Int) + 1)) 25 (111 + 8 * P) 0) 25 (112 + 8 * P) p) 25 (113 + 8 * P) k) 25 (114 + 8 * P) (τ 25 751)) 25 (115 + 8 * P) (-9)) 25 (116 + 8 * P) 0) 25 (117 + 8 * P) (-9)) 25 (118 + 8 * P) (-9) := ⟨_, rfl⟩
    have qo : ∀ c, c ≠ 25 → q c = τ c := by
      intro c hc
      rw [hq]
      simp (disch := omega) only [pu_o]
    have fin : ∀ (z : Int) (τ' : pm_M), pm_it (fun a : Int × pm_M => bdX12_sheet_275 v P a.1 a.2) pm_fuel (0, q) = some (z, τ') → jnX12_sheet_121 v p g τ = some τ' := by
      intro z τ' hz
      rw [hq] at hz
      unfold jnX12_sheet_121 fX12_put
      simp (disch := omega) only [wr_eq, pm_gt, if_pos, if_true, i1, j0, j1, j2, j3, j4, j5, j6, j7, pu_ne, pu_eq, Int.reduceToNat, Int.toNat_natCast, hg, hP, hk, Option.bind_some, hz]
    have key : ∃ (z : Int) (τ' : pm_M), pm_it (fun a : Int × pm_M => bdX12_sheet_275 v P a.1 a.2) pm_fuel (0, q) = some (z, τ') ∧ (∀ c, c ≠ 22 → τ' c = q c) ∧ (τ 0 32 = 1 → τ' 22 = τ 22) ∧ (τ 0 32 = 0 → ∀ i, τ' 22 i = if g = 59 ∧ 360 * P ≤ i ∧ i < 360 * P + 360 then τ 23 (360 * v + (i - 360 * P)) else τ 22 i) := by
      have q0 : q 0 = τ 0 := qo 0 (by decide)
      have q22 : q 22 = τ 22 := qo 22 (by decide)
      have q23 : q 23 = τ 23 := qo 23 (by decide)
      rcases hf with hf | hf
      · obtain ⟨z, τ', e1, e2, e3⟩ := m_marks (τ := q) (v := v) (P := P) hv hP8 (by rw [q0]; exact hf)
        refine ⟨z, τ', e1, e2, fun h => by omega, fun _ i => ?_⟩
        rw [e3 i, q22, q23]
        by_cases w : 360 * P ≤ i ∧ i < 360 * P + 360
        · rw [if_pos w, if_pos ⟨c, w⟩]
        · rw [if_neg w, if_neg (fun w2 => w w2.2)]
      · exact ⟨0, q, m_marks1 (by rw [q0]; exact hf), fun _ _ => rfl, fun _ => q22, fun h => by omega⟩
    obtain ⟨z, τ', k1, k2, k3, k4⟩ := key
    have k5 : τ' 25 = q 25 := k2 25 (by decide)
    refine ⟨τ', fin z τ' k1, fun c h1 h2 => by rw [k2 c h2, qo c h1], k3, k4, ?_, ?_, ?_, fun _ => ?_, fun j h1 h2 h3 => ?_⟩
    · rw [k5, hq]; simp (disch := omega) only [pu_ne, pu_eq]
    · rw [k5, hq, if_pos c]; simp (disch := omega) only [pu_ne, pu_eq]
    · rw [k5, hq, if_pos c]; simp (disch := omega) only [pu_ne, pu_eq]
    · rw [k5, hq]
      simp (disch := omega) only [pu_ne, pu_eq]
      exact ⟨trivial, trivial, trivial, trivial, trivial, trivial, trivial, trivial⟩
    · have h4 := h3 c
      rw [k5, hq]
      simp (disch := omega) only [pu_ne]
  · refine ⟨pm_up (pm_up τ 25 753 (τ 25 753 + 1)) 25 (105 + 2 * v) ((g : Int) + 1), ?_, fun c h1 h2 => ?_, fun _ => ?_, fun _ i => ?_, ?_, ?_, ?_, fun h => absurd h c, fun j h1 h2 h3 => ?_⟩
    · unfold jnX12_sheet_121
      simp (disch := omega) only [wr_eq, pm_gt, if_neg, if_false, i1, pu_ne, Int.reduceToNat, hg]
    · simp (disch := omega) only [pu_o]
    · simp (disch := omega) only [pu_o]
    · rw [if_neg (fun q => c q.1)]
      simp (disch := omega) only [pu_ne]
    · simp (disch := omega) only [pu_ne, pu_eq]
    · rw [pu_eq ⟨rfl, rfl⟩, if_neg c]
    · rw [if_neg c]
      simp (disch := omega) only [pu_ne]
      exact hP
    · simp (disch := omega) only [pu_ne]
set_option maxHeartbeats 8000000 in
theorem m_sheet {τ : pm_M} {v p k g P : Nat} (hv : v < 3) (hp : τ 14 v = p) (hp4 : p < 4) (hk : τ 15 v = k) (hk8 : k ≤ 8) (hg : τ 25 (105 + 2 * v) = g) (hg60 : g < 60) (hP : τ 25 752 = P) (hP8 : P < 80) (hf : (τ 0 32 = 0 ∧ (∀ i, i < 8 → 0 ≤ τ 13 i ∧ τ 13 i ≤ 200000) ∧ (∀ i, i < 48 → 0 ≤ τ 12 i ∧ τ 12 i ≤ 99)) ∨ τ 0 32 = 1) : ∃ τ', fX12_sheet v τ = some τ' ∧ (∀ c, c ≠ 25 → c ≠ 12 → c ≠ 13 → c ≠ 22 → c ≠ 23 → τ' c = τ c) ∧ (τ 0 32 = 1 → ∀ c, c ≠ 25 → τ' c = τ c) ∧ (τ 0 32 = 0 → τ' 12 = wrow (2 * p + g % 2) (τ 13 (2 * p + g % 2) + 1) (τ 12) ∧ (∀ i, τ' 13 i = if i = 2 * p + g % 2 then τ 13 i + 1 else τ 13 i) ∧ (∀ i, τ' 23 i = if 6 * (60 * v + g) ≤ i ∧ i < 6 * (60 * v + g) + 6 then τ 12 (6 * (2 * p + g % 2) + (i - 6 * (60 * v + g))) else τ 23 i) ∧ (∀ i, τ' 22 i = if g = 59 ∧ 360 * P ≤ i ∧ i < 360 * P + 360 then τ' 23 (360 * v + (i - 360 * P)) else τ 22 i)) ∧ τ' 25 (96 + k) = τ 25 (96 + k) - τ 11 p ∧ τ' 25 753 = τ 25 753 + 1 ∧ τ' 25 (105 + 2 * v) = (if g = 59 then 0 else (g : Int) + 1) ∧ τ' 25 752 = (if g = 59 then (P : Int) + 1 else P) ∧ (g = 59 → τ' 25 (111 + 8 * P) = 0 ∧ τ' 25 (112 + 8 * P) = p ∧ τ' 25 (113 + 8 * P) = k ∧ τ' 25 (114 + 8 * P) = τ 25 751 ∧ τ' 25 (115 + 8 * P) = -9 ∧ τ' 25 (116 + 8 * P) = 0 ∧ τ' 25 (117 + 8 * P) = -9 ∧ τ' 25 (118 + 8 * P) = -9) ∧ (∀ j, j ≠ 96 + k → j ≠ 753 → j ≠ 105 + 2 * v → (g = 59 → j ≠ 752 ∧ (j < 111 + 8 * P ∨ 119 + 8 * P ≤ j)) → τ' 25 j = τ 25 j) := by
  obtain ⟨m, hm⟩ : ∃ m, m = 2 * p + g % 2 := ⟨_, rfl⟩
  rw [← hm]
  have em : 2 * (p : Int) + (g : Int) % 2 = (m : Int) := by omega
  have i1 : Int.toNat (105 + 2 * (v : Int)) = 105 + 2 * v := by omega
  have i2 : Int.toNat (96 + (k : Int)) = 96 + k := by omega
  obtain ⟨t1, ht1⟩ : ∃ t1, t1 = pm_up τ 25 (96 + k) (τ 25 (96 + k) - τ 11 p) := ⟨_, rfl⟩
  have t1o : ∀ c, c ≠ 25 → t1 c = τ c := fun c hc => by rw [ht1, pu_o hc]
  have g1 : t1 25 (105 + 2 * v) = g := by rw [ht1, pu_ne (by omega)]; exact hg
  have P1 : t1 25 752 = P := by rw [ht1, pu_ne (by omega)]; exact hP
  rcases hf with ⟨hf, hc, hw⟩ | hf
  · obtain ⟨z, t2, e1, e2, e3⟩ := m_open (τ := t1) (y2 := (p : Int)) (v := v) (g := g) (m := m) hv hg60 (by omega)
    have hcm := hc m (by omega)
    have s12 : t2 12 = τ 12 := by rw [e2 12 (by decide), t1o 12 (by decide)]
    have s13 : t2 13 = τ 13 := by rw [e2 13 (by decide), t1o 13 (by decide)]
    obtain ⟨t3, ht3⟩ : ∃ t3, t3 = pm_up t2 13 m (τ 13 m + 1) := ⟨_, rfl⟩
    have w13 : t3 13 m = τ 13 m + 1 := by rw [ht3, pu_eq ⟨rfl, rfl⟩]
    have w12 : t3 12 = τ 12 := by rw [ht3, pu_o (by decide)]; exact s12
    have mw := m_wander (m := m) (τ := t3) (by omega) (by rw [w13]; omega) (fun i hi => by rw [w12]; exact hw i hi)
    rw [w13, w12] at mw
    obtain ⟨t4, ht4⟩ : ∃ t4, t4 = pm_rw t3 12 (wrow m (τ 13 m + 1) (τ 12)) := ⟨_, rfl⟩
    rw [← ht4] at mw
    have t4o : ∀ c, c ≠ 12 → c ≠ 13 → c ≠ 23 → t4 c = t1 c := by
      intro c h1 h2 h3
      rw [ht4, rw_n h1, ht3, pu_o h2, e2 c h3]
    have f4 : t4 0 32 = 0 := by rw [t4o 0 (by decide) (by decide) (by decide), t1o 0 (by decide)]; exact hf
    have t25 : t4 25 = t1 25 := t4o 25 (by decide) (by decide) (by decide)
    have t23 : ∀ i, t4 23 i = if 6 * (60 * v + g) ≤ i ∧ i < 6 * (60 * v + g) + 6 then τ 12 (6 * m + (i - 6 * (60 * v + g))) else τ 23 i := by
      intro i
      rw [ht4, rw_n (by decide), ht3, pu_o (by decide), e3 i, t1o 12 (by decide), t1o 23 (by decide)]
    obtain ⟨τ', f1, f2, f3, f5, f6, f7, f8, f9, f10⟩ := m_jn (τ := t4) (v := v) (p := p) (k := k) (g := g) (P := P) hv (by rw [t25]; exact g1) hg60 (by rw [t25]; exact P1) hP8 (by rw [t4o 15 (by decide) (by decide) (by decide), t1o 15 (by decide)]; exact hk) (Or.inl f4)
    have f5 := f5 f4
    have n23 : τ' 23 = t4 23 := f2 23 (by decide) (by decide)
    refine ⟨τ', ?_, fun c h1 h2 h3 h4 h5 => by rw [f2 c h1 h4, t4o c h2 h3 h5, t1o c h1], fun h => by omega, fun _ => ⟨?_, fun i => ?_, fun i => by rw [n23]; exact t23 i, fun i => ?_⟩, ?_, ?_, f7, f8, fun h => ?_, fun j h1 h2 h3 h4 => ?_⟩
    · have fz : τ 0 32 = 0 := hf
      rw [ht3, ← s13] at mw
      rw [ht1] at e1
      unfold fX12_sheet
      simp (disch := omega) only [hp, hk, wr_eq, pm_gt, Int.toNat_natCast, i1, i2, pu_ne, fz, if_pos, if_true, hg, Int.tmod_eq_emod_of_nonneg, em, e1, Option.bind_some, mw, f1]
    · rw [f2 12 (by decide) (by decide), ht4, rw_e rfl]
    · rw [f2 13 (by decide) (by decide), ht4, rw_n (by decide), ht3]
      by_cases e : i = m
      · rw [pu_eq ⟨rfl, e⟩, if_pos e, e]
      · rw [pu_ne (Or.inr e), if_neg e, s13]
    · rw [f5 i, n23, t4o 22 (by decide) (by decide) (by decide), t1o 22 (by decide)]
    · rw [f10 (96 + k) (by omega) (by omega) (fun _ => by omega), t25, ht1, pu_eq ⟨rfl, rfl⟩]
    · rw [f6, t25, ht1, pu_ne (by omega)]
    · have q := f9 h
      rw [t25, ht1, pu_ne (show 25 ≠ 25 ∨ 751 ≠ 96 + k by omega)] at q
      exact q
    · rw [f10 j h2 h3 h4, t25, ht1, pu_ne (Or.inr h1)]
  · have f4 : t1 0 32 = 1 := by rw [t1o 0 (by decide)]; exact hf
    obtain ⟨τ', f1, f2, f3, f5, f6, f7, f8, f9, f10⟩ := m_jn (τ := t1) (v := v) (p := p) (k := k) (g := g) (P := P) hv g1 hg60 P1 hP8 (by rw [t1o 15 (by decide)]; exact hk) (Or.inr f4)
    have o22 := f3 f4
    have oo : ∀ c, c ≠ 25 → τ' c = τ c := by
      intro c hc
      by_cases e : c = 22
      · rw [e, o22, t1o 22 (by decide)]
      · rw [f2 c hc e, t1o c hc]
    refine ⟨τ', ?_, fun c h1 _ _ _ _ => oo c h1, fun _ => oo, fun h => by omega, ?_, ?_, f7, f8, fun h => ?_, fun j h1 h2 h3 h4 => ?_⟩
    · rw [ht1] at f1
      unfold fX12_sheet
      simp (disch := omega) only [hp, hk, wr_eq, pm_gt, Int.toNat_natCast, i1, i2, pu_ne, hf, if_neg, if_false, hg, f1]
    · rw [f10 (96 + k) (by omega) (by omega) (fun _ => by omega), ht1, pu_eq ⟨rfl, rfl⟩]
    · rw [f6, ht1, pu_ne (by omega)]
    · have q := f9 h
      rw [ht1, pu_ne (show 25 ≠ 25 ∨ 751 ≠ 96 + k by omega)] at q
      exact q
    · rw [f10 j h2 h3 h4, ht1, pu_ne (Or.inr h1)]
