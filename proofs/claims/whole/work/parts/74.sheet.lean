/-! ===== an hour: one sheet, each side alone ===== -/
def wnd (c x : Int) : Int := if c / 50 / 6 % 2 = 0 then (if x + 1 ≤ 99 then x + 1 else x) else (if 0 ≤ x - 1 then x - 1 else x)
def wat (m : Nat) (c : Int) : Nat := 6 * m + ((c / 50 + m) % 6).toNat
def wrow (m : Nat) (c : Int) (f : Nat → Int) : Nat → Int := fun i => if c % 50 = 0 ∧ i = wat m c then wnd c (f i) else f i
theorem wat_b (m : Nat) (c : Int) : 6 * m ≤ wat m c ∧ wat m c < 6 * m + 6 := by
  unfold wat
  have h1 := Int.emod_nonneg (c / 50 + m) (show (6 : Int) ≠ 0 by decide)
  have h2 := Int.emod_lt_of_pos (c / 50 + m) (show (0 : Int) < 6 by decide)
  omega
theorem wnd_b {c x : Int} (h : 0 ≤ x ∧ x ≤ 99) : 0 ≤ wnd c x ∧ wnd c x ≤ 99 := by
  unfold wnd
  split <;> split <;> omega
theorem wrow_n {m : Nat} {c : Int} {f : Nat → Int} (h : c % 50 ≠ 0) : wrow m c f = f := by
  funext i
  unfold wrow
  rw [if_neg (fun q => h q.1)]
theorem wrow_o {m : Nat} {c : Int} {f : Nat → Int} {i : Nat} (h : i < 6 * m ∨ 6 * m + 6 ≤ i) : wrow m c f i = f i := by
  have := wat_b m c
  unfold wrow
  rw [if_neg (fun q => by omega)]
theorem wrow_b {m : Nat} {c : Int} {f : Nat → Int} {n : Nat} (h : ∀ i, i < n → 0 ≤ f i ∧ f i ≤ 99) : ∀ i, i < n → 0 ≤ wrow m c f i ∧ wrow m c f i ≤ 99 := by
  intro i hi
  unfold wrow
  split
  · exact wnd_b (h i hi)
  · exact h i hi
theorem rw_e {σ : pm_M} {c : Nat} {f : Nat → Int} {c' : Nat} (h : c' = c) : pm_rw σ c f c' = f := if_pos h
theorem rw_n {σ : pm_M} {c : Nat} {f : Nat → Int} {c' : Nat} (h : c' ≠ c) : pm_rw σ c f c' = σ c' := if_neg h
theorem rw_is {σ τ : pm_M} {c : Nat} {f : Nat → Int} (h1 : ∀ c', c' ≠ c → τ c' = σ c') (h2 : ∀ i, τ c i = f i) : τ = pm_rw σ c f := by
  have e : τ c = f := funext h2
  rw [← e]
  exact pm_rw_of h1
theorem cp_o {σ : pm_M} {a sp b dp n c : Nat} (h : c ≠ b) : pm_cp σ a sp b dp n c = σ c := by
  funext i
  unfold pm_cp
  rw [if_neg (fun q => h q.1)]
theorem cp_e {σ : pm_M} {a sp b dp n i : Nat} : pm_cp σ a sp b dp n b i = if dp ≤ i ∧ i < dp + n then σ a (sp + (i - dp)) else σ b i := by
  unfold pm_cp
  by_cases c : dp ≤ i ∧ i < dp + n
  · rw [if_pos c, if_pos ⟨rfl, c⟩]
  · rw [if_neg c, if_neg (fun q => c q.2)]
set_option maxHeartbeats 8000000 in
theorem c_count {b m : Nat} {σ : pm_M} (hm : m < 8) (hc : 0 ≤ σ (b + 10) m ∧ σ (b + 10) m ≤ 200000) (hw : ∀ i, i < 48 → 0 ≤ σ (b + 9) i ∧ σ (b + 9) i ≤ 99) : fX3_countSheet b m σ = some (pm_rw (pm_up σ (b + 10) m (σ (b + 10) m + 1)) (b + 9) (wrow m (σ (b + 10) m + 1) (σ (b + 9)))) := by
  have hb := wat_b m (σ (b + 10) m + 1)
  have hx := hw (wat m (σ (b + 10) m + 1)) (by omega)
  have ha : (m : Int) * 6 + ((σ (b + 10) m + 1) / 50 + m) % 6 = (wat m (σ (b + 10) m + 1) : Int) := by
    unfold wat
    have h1 := Int.emod_nonneg ((σ (b + 10) m + 1) / 50 + m) (show (6 : Int) ≠ 0 by decide)
    omega
  have hu : ∀ i, wrow m (σ (b + 10) m + 1) (σ (b + 9)) i = if (σ (b + 10) m + 1) % 50 = 0 ∧ i = wat m (σ (b + 10) m + 1) then wnd (σ (b + 10) m + 1) (σ (b + 9) i) else σ (b + 9) i := fun i => rfl
  generalize wat m (σ (b + 10) m + 1) = A at hb hx ha hu
  unfold fX3_countSheet jnX3_countSheet_73
  by_cases c1 : (σ (b + 10) m + 1) % 50 = 0
  · by_cases c2 : (σ (b + 10) m + 1) / 50 / 6 % 2 = 0
    · by_cases c3 : σ (b + 9) A + 1 ≤ 99
      · simp (disch := omega) only [wr_eq, pm_gt, pu_eq, pu_ne, Int.toNat_natCast, Int.tdiv_eq_ediv_of_nonneg, Int.tmod_eq_emod_of_nonneg, if_pos, if_neg, if_true, if_false, ha]
        refine congrArg some (rw_is (fun c hc => pu_o hc) (fun i => ?_))
        rw [hu i]
        by_cases e : i = A
        · rw [pu_eq ⟨rfl, e⟩, if_pos ⟨c1, e⟩, e]
          unfold wnd
          rw [if_pos c2, if_pos c3]
        · rw [pu_ne (Or.inr e), pu_ne (by omega), if_neg (fun q => e q.2)]
      · simp (disch := omega) only [wr_eq, pm_gt, pu_eq, pu_ne, Int.toNat_natCast, Int.tdiv_eq_ediv_of_nonneg, Int.tmod_eq_emod_of_nonneg, if_pos, if_neg, if_true, if_false, ha]
        refine congrArg some (rw_is (fun c hc => rfl) (fun i => ?_))
        rw [hu i, pu_ne (by omega)]
        by_cases e : i = A
        · rw [if_pos ⟨c1, e⟩, e]
          unfold wnd
          rw [if_pos c2, if_neg c3]
        · rw [if_neg (fun q => e q.2)]
    · by_cases c3 : 0 ≤ σ (b + 9) A - 1
      · simp (disch := omega) only [wr_eq, pm_gt, pu_eq, pu_ne, Int.toNat_natCast, Int.tdiv_eq_ediv_of_nonneg, Int.tmod_eq_emod_of_nonneg, if_pos, if_neg, if_true, if_false, ha]
        refine congrArg some (rw_is (fun c hc => pu_o hc) (fun i => ?_))
        rw [hu i]
        by_cases e : i = A
        · rw [pu_eq ⟨rfl, e⟩, if_pos ⟨c1, e⟩, e]
          unfold wnd
          rw [if_neg c2, if_pos c3]
        · rw [pu_ne (Or.inr e), pu_ne (by omega), if_neg (fun q => e q.2)]
      · simp (disch := omega) only [wr_eq, pm_gt, pu_eq, pu_ne, Int.toNat_natCast, Int.tdiv_eq_ediv_of_nonneg, Int.tmod_eq_emod_of_nonneg, if_pos, if_neg, if_true, if_false, ha]
        refine congrArg some (rw_is (fun c hc => rfl) (fun i => ?_))
        rw [hu i, pu_ne (by omega)]
        by_cases e : i = A
        · rw [if_pos ⟨c1, e⟩, e]
          unfold wnd
          rw [if_neg c2, if_neg c3]
        · rw [if_neg (fun q => e q.2)]
  · simp (disch := omega) only [wr_eq, pm_gt, pu_eq, pu_ne, Int.toNat_natCast, Int.tmod_eq_emod_of_nonneg, if_neg, if_false]
    refine congrArg some (rw_is (fun c hc => rfl) (fun i => ?_))
    rw [hu i, pu_ne (by omega), if_neg (fun q => c1 q.1)]
set_option maxHeartbeats 8000000 in
theorem m_wander {m : Nat} {τ : pm_M} (hm : m < 8) (hc : 0 ≤ τ 13 m ∧ τ 13 m ≤ 200001) (hw : ∀ i, i < 48 → 0 ≤ τ 12 i ∧ τ 12 i ≤ 99) : fX12_wanders m τ = some (pm_rw τ 12 (wrow m (τ 13 m) (τ 12))) := by
  have hb := wat_b m (τ 13 m)
  have hx := hw (wat m (τ 13 m)) (by omega)
  have ha : 6 * (m : Int) + (τ 13 m / 50 + m) % 6 = (wat m (τ 13 m) : Int) := by
    unfold wat
    have h1 := Int.emod_nonneg (τ 13 m / 50 + m) (show (6 : Int) ≠ 0 by decide)
    omega
  have hu : ∀ i, wrow m (τ 13 m) (τ 12) i = if τ 13 m % 50 = 0 ∧ i = wat m (τ 13 m) then wnd (τ 13 m) (τ 12 i) else τ 12 i := fun i => rfl
  generalize wat m (τ 13 m) = A at hb hx ha hu
  unfold fX12_wanders
  have up : pm_max 0 (pm_min 99 (τ 12 A + 1)) = if τ 12 A + 1 ≤ 99 then τ 12 A + 1 else τ 12 A := by
    unfold pm_max pm_min
    by_cases q : τ 12 A + 1 ≤ 99
    · by_cases q2 : τ 12 A + 1 < 99
      · simp (disch := omega) only [wr_eq, if_pos, if_neg]
      · simp (disch := omega) only [wr_eq, if_pos, if_neg]; omega
    · simp (disch := omega) only [wr_eq, if_pos, if_neg]; omega
  have dn : pm_max 0 (pm_min 99 (τ 12 A + -1)) = if 0 ≤ τ 12 A - 1 then τ 12 A - 1 else τ 12 A := by
    unfold pm_max pm_min
    by_cases q : 0 < τ 12 A - 1
    · simp (disch := omega) only [wr_eq, if_pos, if_neg]; omega
    · by_cases q2 : 0 ≤ τ 12 A - 1
      · simp (disch := omega) only [wr_eq, if_pos, if_neg]; omega
      · simp (disch := omega) only [wr_eq, if_pos, if_neg]; omega
  by_cases c1 : τ 13 m % 50 = 0
  · by_cases c2 : τ 13 m / 50 / 6 % 2 = 0
    · simp (disch := omega) only [wr_eq, pm_gt, Int.toNat_natCast, Int.tdiv_eq_ediv_of_nonneg, Int.tmod_eq_emod_of_nonneg, if_pos, if_true, ha, up]
      refine congrArg some (rw_is (fun c hc => pu_o hc) (fun i => ?_))
      rw [hu i]
      by_cases e : i = A
      · rw [pu_eq ⟨rfl, e⟩, if_pos (show τ 13 m % 50 = 0 ∧ i = A from ⟨c1, e⟩), e]
        unfold wnd
        rw [if_pos c2]
      · rw [pu_ne (Or.inr e), if_neg (fun q => e q.2)]
    · simp (disch := omega) only [wr_eq, pm_gt, Int.toNat_natCast, Int.tdiv_eq_ediv_of_nonneg, Int.tmod_eq_emod_of_nonneg, if_pos, if_neg, if_true, if_false, ha, dn]
      refine congrArg some (rw_is (fun c hc => pu_o hc) (fun i => ?_))
      rw [hu i]
      by_cases e : i = A
      · rw [pu_eq ⟨rfl, e⟩, if_pos (show τ 13 m % 50 = 0 ∧ i = A from ⟨c1, e⟩), e]
        unfold wnd
        rw [if_neg c2]
      · rw [pu_ne (Or.inr e), if_neg (fun q => e q.2)]
  · simp (disch := omega) only [wr_eq, pm_gt, Int.toNat_natCast, Int.tmod_eq_emod_of_nonneg, if_neg, if_false]
    refine congrArg some (rw_is (fun c hc => rfl) (fun i => ?_))
    rw [hu i, if_neg (fun q => c1 q.1)]
set_option maxHeartbeats 8000000 in
theorem c_sheet {b v p k g : Nat} {σ : pm_M} (hv : v < 3) (hp : σ (b + 23) v = p) (hp4 : p < 4) (hk : σ (b + 24) v = k) (hk8 : k ≤ 8) (hg : σ (b + 25) v = g) (hg60 : g < 60) (hc : ∀ i, i < 8 → 0 ≤ σ (b + 10) i ∧ σ (b + 10) i ≤ 200000) (hw : ∀ i, i < 48 → 0 ≤ σ (b + 9) i ∧ σ (b + 9) i ≤ 99) : ∃ σ', fX8_makeSheet b v σ = some σ' ∧ (∀ c, c ≠ b + 1 → c ≠ b + 9 → c ≠ b + 10 → c ≠ b + 22 → c ≠ b + 25 → c ≠ b + 27 → σ' c = σ c) ∧ (∀ i, σ' (b + 1) i = if i = k then σ (b + 1) k - σ (b + 8) p else σ (b + 1) i) ∧ σ' (b + 9) = wrow (2 * p + g % 2) (σ (b + 10) (2 * p + g % 2) + 1) (σ (b + 9)) ∧ (∀ i, σ' (b + 10) i = if i = 2 * p + g % 2 then σ (b + 10) i + 1 else σ (b + 10) i) ∧ σ' (b + 22) 8 = σ (b + 22) 8 + 1 ∧ (∀ i, σ' (b + 25) i = if i = v then (g : Int) + 1 else σ (b + 25) i) ∧ (∀ i, σ' (b + 27) i = if g = 0 ∧ 12 * v ≤ i ∧ i < 12 * v + 12 then σ (b + 9) (12 * p + (i - 12 * v)) else σ (b + 27) i) := by
  obtain ⟨m, hm⟩ : ∃ m, m = 2 * p + g % 2 := ⟨_, rfl⟩
  have em : 2 * (p : Int) + (g : Int) % 2 = (m : Int) := by omega
  have key : ∀ σ1 : pm_M, (∀ c, c ≠ b + 27 → σ1 c = σ c) → jnX8_makeSheet_38 b v σ1 = some (pm_up (pm_up (pm_rw (pm_up (pm_up σ1 (b + 1) k (σ (b + 1) k - σ (b + 8) p)) (b + 10) m (σ (b + 10) m + 1)) (b + 9) (wrow m (σ (b + 10) m + 1) (σ (b + 9)))) (b + 25) v ((g : Int) + 1)) (b + 22) 8 (σ (b + 22) 8 + 1)) := by
    intro σ1 h1
    have s1 := h1 (b + 1) (by omega)
    have s8 := h1 (b + 8) (by omega)
    have s9 := h1 (b + 9) (by omega)
    have s10 := h1 (b + 10) (by omega)
    have s22 := h1 (b + 22) (by omega)
    have s23 := h1 (b + 23) (by omega)
    have s24 := h1 (b + 24) (by omega)
    have s25 := h1 (b + 25) (by omega)
    have hcm := hc m (by omega)
    have cc := c_count (b := b) (m := m) (σ := pm_up σ1 (b + 1) k (σ (b + 1) k - σ (b + 8) p)) (by omega) (by rw [pu_ne (by omega), s10]; exact hcm) (fun i hi => by rw [pu_ne (by omega), s9]; exact hw i hi)
    rw [pu_ne (show b + 10 ≠ b + 1 ∨ m ≠ k by omega), s10, pu_o (show b + 9 ≠ b + 1 by omega), s9] at cc
    unfold jnX8_makeSheet_38
    simp (disch := omega) only [s1, s8, s23, s24, s25, hp, hk, hg, wr_eq, pm_gt, pu_ne, Int.toNat_natCast, Int.tmod_eq_emod_of_nonneg, em, cc, Option.bind_some, rw_n, s22]
  have rd : ∀ σ1 : pm_M, (∀ c, c ≠ b + 27 → σ1 c = σ c) → (∀ i, σ1 (b + 27) i = if g = 0 ∧ 12 * v ≤ i ∧ i < 12 * v + 12 then σ (b + 9) (12 * p + (i - 12 * v)) else σ (b + 27) i) → fX8_makeSheet b v σ = jnX8_makeSheet_38 b v σ1 → ∃ σ', fX8_makeSheet b v σ = some σ' ∧ (∀ c, c ≠ b + 1 → c ≠ b + 9 → c ≠ b + 10 → c ≠ b + 22 → c ≠ b + 25 → c ≠ b + 27 → σ' c = σ c) ∧ (∀ i, σ' (b + 1) i = if i = k then σ (b + 1) k - σ (b + 8) p else σ (b + 1) i) ∧ σ' (b + 9) = wrow (2 * p + g % 2) (σ (b + 10) (2 * p + g % 2) + 1) (σ (b + 9)) ∧ (∀ i, σ' (b + 10) i = if i = 2 * p + g % 2 then σ (b + 10) i + 1 else σ (b + 10) i) ∧ σ' (b + 22) 8 = σ (b + 22) 8 + 1 ∧ (∀ i, σ' (b + 25) i = if i = v then (g : Int) + 1 else σ (b + 25) i) ∧ (∀ i, σ' (b + 27) i = if g = 0 ∧ 12 * v ≤ i ∧ i < 12 * v + 12 then σ (b + 9) (12 * p + (i - 12 * v)) else σ (b + 27) i) := by
    intro σ1 h1 h2 h3
    rw [h3, key σ1 h1, ← hm]
    refine ⟨_, rfl, fun c q1 q2 q3 q4 q5 q6 => ?_, fun i => ?_, ?_, fun i => ?_, ?_, fun i => ?_, fun i => ?_⟩
    · simp (disch := omega) only [pu_o, rw_n]
      exact h1 c q6
    · simp (disch := omega) only [pu_ne, rw_n]
      by_cases e : i = k
      · rw [if_pos e, pu_eq ⟨rfl, e⟩]
      · rw [if_neg e, pu_ne (Or.inr e), h1 _ (by omega)]
    · simp (disch := omega) only [pu_o, rw_e]
    · simp (disch := omega) only [pu_ne, rw_n]
      by_cases e : i = m
      · rw [if_pos e, pu_eq ⟨rfl, e⟩, e]
      · rw [if_neg e, pu_ne (Or.inr e), pu_ne (by omega), h1 _ (by omega)]
    · exact pu_eq ⟨rfl, rfl⟩
    · rw [pu_ne (by omega)]
      by_cases e : i = v
      · rw [if_pos e, pu_eq ⟨rfl, e⟩]
      · rw [if_neg e, pu_ne (Or.inr e)]
        simp (disch := omega) only [pu_ne, rw_n]
        rw [h1 _ (by omega)]
    · simp (disch := omega) only [pu_ne, rw_n]
      exact h2 i
  by_cases c : g = 0
  · refine rd (pm_cp σ (b + 9) (12 * p) (b + 27) (12 * v) 12) (fun c hc => cp_o hc) (fun i => ?_) ?_
    · rw [cp_e]
      by_cases q : 12 * v ≤ i ∧ i < 12 * v + 12
      · rw [if_pos q, if_pos ⟨c, q⟩]
      · rw [if_neg q, if_neg (fun z => q z.2)]
    · unfold fX8_makeSheet
      have i1 : Int.toNat ((p : Int) * 12) = 12 * p := by omega
      have i2 : Int.toNat ((v : Int) * 12) = 12 * v := by omega
      have i3 : Int.toNat 12 = 12 := rfl
      simp (disch := omega) only [hp, hg, wr_eq, pm_gt, if_pos, if_true, Int.toNat_natCast, i1, i2, i3]
  · refine rd σ (fun _ _ => rfl) (fun i => by rw [if_neg (fun z => c z.1)]) ?_
    unfold fX8_makeSheet
    simp (disch := omega) only [hg, wr_eq, pm_gt, if_neg, if_false, Int.toNat_natCast]
set_option maxHeartbeats 8000000 in
theorem c_end {b v p k P : Nat} {h : Int} {σ : pm_M} (hv : v < 3) (hp : σ (b + 23) v = p) (hp4 : p < 4) (hk : σ (b + 24) v = k) (hP : σ (b + 11) 8 = P) (hP8 : P < 80) (hc : 0 ≤ σ (b + 10) (2 * p) ∧ σ (b + 10) (2 * p) ≤ 200000) : ∃ σ', fX8_endPost b v h σ = some σ' ∧ (∀ c, c ≠ b + 11 → c ≠ b + 13 → c ≠ b + 14 → (c < b + 15 ∨ b + 21 < c) → c ≠ b + 25 → σ' c = σ c) ∧ σ' (b + 11) 8 = (P : Int) + 1 ∧ (∀ i, i ≠ 8 → σ' (b + 11) i = σ (b + 11) i) ∧ (∀ i, σ' (b + 15) i = if i = P then (p : Int) else σ (b + 15) i) ∧ (∀ i, σ' (b + 16) i = if i = P then (k : Int) else σ (b + 16) i) ∧ (∀ i, σ' (b + 17) i = if i = P then h else σ (b + 17) i) ∧ (∀ i, σ' (b + 18) i = if i = P then -9 else σ (b + 18) i) ∧ (∀ i, σ' (b + 19) i = if i = P then 0 else σ (b + 19) i) ∧ (∀ i, σ' (b + 20) i = if i = P then -9 else σ (b + 20) i) ∧ (∀ i, σ' (b + 21) i = if i = P then -9 else σ (b + 21) i) ∧ (∀ i, σ' (b + 25) i = if i = v then 0 else σ (b + 25) i) ∧ (∀ i, σ' (b + 13) i = if 24 * P ≤ i ∧ i < 24 * P + 12 then σ (b + 27) (12 * v + (i - 24 * P)) else if 24 * P + 12 ≤ i ∧ i < 24 * P + 24 then σ (b + 9) (12 * p + (i - (24 * P + 12))) else σ (b + 13) i) ∧ (∀ i, σ' (b + 14) i = if i = P then (if σ (b + 10) (2 * p) % 50 < 30 then 30 - σ (b + 10) (2 * p) % 50 else 0) else σ (b + 14) i) := by
  have i1 : Int.toNat ((v : Int) * 12) = 12 * v := by omega
  have i2 : Int.toNat ((P : Int) * 4 * 6) = 24 * P := by omega
  have i3 : Int.toNat ((P : Int) * 4 * 6 + 12) = 24 * P + 12 := by omega
  have i4 : Int.toNat ((p : Int) * 12) = 12 * p := by omega
  have i5 : Int.toNat (2 * (p : Int)) = 2 * p := by omega
  have i6 : Int.toNat 12 = 12 := rfl
  have em : pm_max 0 (30 - σ (b + 10) (2 * p) % 50) = (if σ (b + 10) (2 * p) % 50 < 30 then 30 - σ (b + 10) (2 * p) % 50 else 0) := by
    unfold pm_max
    by_cases q : σ (b + 10) (2 * p) % 50 < 30
    · simp (disch := omega) only [wr_eq, if_pos]
    · simp (disch := omega) only [wr_eq, if_neg]
  obtain ⟨q2, hq2⟩ : ∃ q2, q2 = pm_up (pm_cp (pm_cp σ (b + 27) (12 * v) (b + 13) (24 * P) 12) (b + 9) (12 * p) (b + 13) (24 * P + 12) 12) (b + 14) P (if σ (b + 10) (2 * p) % 50 < 30 then 30 - σ (b + 10) (2 * p) % 50 else 0) := ⟨_, rfl⟩
  have q2o : ∀ c, c ≠ b + 13 → c ≠ b + 14 → q2 c = σ c := by
    intro c h1 h2
    rw [hq2]
    simp (disch := omega) only [pu_o, cp_o]
  have E1 : fX2_keep b P (v * 12) p σ = some q2 := by
    unfold fX2_keep
    simp (disch := omega) only [wr_eq, pm_gt, i1, i2, i3, i4, i5, i6, cp_o, Int.tmod_eq_emod_of_nonneg, em, Int.toNat_natCast]
    rw [hq2]
  have h11 : q2 (b + 11) 8 = P := by rw [q2o _ (by omega) (by omega)]; exact hP
  have h23 : q2 (b + 23) v = p := by rw [q2o _ (by omega) (by omega)]; exact hp
  have h24 : q2 (b + 24) v = k := by rw [q2o _ (by omega) (by omega)]; exact hk
  have E2 : fX6_add b p k h q2 = some (pm_up (pm_up (pm_up (pm_up (pm_up (pm_up (pm_up (pm_up q2 (b + 15) P p) (b + 16) P k) (b + 17) P h) (b + 18) P (-9)) (b + 19) P 0) (b + 20) P (-9)) (b + 21) P (-9)) (b + 11) 8 ((P : Int) + 1)) := by
    unfold fX6_add
    simp (disch := omega) only [h11, wr_eq, pm_gt, pu_ne, Int.toNat_natCast]
  have E3 : fX8_endPost b v h σ = some (pm_up (pm_up (pm_up (pm_up (pm_up (pm_up (pm_up (pm_up (pm_up q2 (b + 15) P p) (b + 16) P k) (b + 17) P h) (b + 18) P (-9)) (b + 19) P 0) (b + 20) P (-9)) (b + 21) P (-9)) (b + 11) 8 ((P : Int) + 1)) (b + 25) v 0) := by
    unfold fX8_endPost
    simp (disch := omega) only [hP, hp, wr_eq, pm_gt, Int.toNat_natCast, E1, Option.bind_some, h23, h24, E2]
  have up : ∀ (τ : pm_M) (c j : Nat) (x : Int) (i : Nat), pm_up τ c j x c i = if i = j then x else τ c i := by
    intro τ c j x i
    rw [pm_up_c, if_pos rfl]
  refine ⟨_, E3, fun c h1 h2 h3 h4 h5 => ?_, ?_, fun i hi => ?_, fun i => ?_, fun i => ?_, fun i => ?_, fun i => ?_, fun i => ?_, fun i => ?_, fun i => ?_, fun i => ?_, fun i => ?_, fun i => ?_⟩
  · simp (disch := omega) only [pu_o]
    exact q2o c h2 h3
  · rw [pu_ne (by omega), pu_eq ⟨rfl, rfl⟩]
  · simp (disch := omega) only [pu_ne]
    rw [q2o _ (by omega) (by omega)]
  · simp (disch := omega) only [pu_ne]
    rw [up, q2o _ (by omega) (by omega)]
  · simp (disch := omega) only [pu_ne]
    rw [up]
    simp (disch := omega) only [pu_ne]
    rw [q2o _ (by omega) (by omega)]
  · simp (disch := omega) only [pu_ne]
    rw [up]
    simp (disch := omega) only [pu_ne]
    rw [q2o _ (by omega) (by omega)]
  · simp (disch := omega) only [pu_ne]
    rw [up]
    simp (disch := omega) only [pu_ne]
    rw [q2o _ (by omega) (by omega)]
  · simp (disch := omega) only [pu_ne]
    rw [up]
    simp (disch := omega) only [pu_ne]
    rw [q2o _ (by omega) (by omega)]
  · simp (disch := omega) only [pu_ne]
    rw [up]
    simp (disch := omega) only [pu_ne]
    rw [q2o _ (by omega) (by omega)]
  · simp (disch := omega) only [pu_ne]
    rw [up]
    simp (disch := omega) only [pu_ne]
    rw [q2o _ (by omega) (by omega)]
  · rw [up]
    simp (disch := omega) only [pu_ne]
    rw [q2o _ (by omega) (by omega)]
  · simp (disch := omega) only [pu_ne]
    rw [hq2, pu_ne (by omega), cp_e]
    by_cases q : 24 * P ≤ i ∧ i < 24 * P + 12
    · rw [if_neg (by omega), if_pos q, cp_e, if_pos q]
    · rw [if_neg q]
      by_cases q3 : 24 * P + 12 ≤ i ∧ i < 24 * P + 24
      · rw [if_pos (by omega), if_pos q3, cp_o (by omega)]
      · rw [if_neg (by omega), if_neg q3, cp_e, if_neg q]
  · simp (disch := omega) only [pu_ne]
    rw [hq2, up, cp_o (by omega), cp_o (by omega)]
