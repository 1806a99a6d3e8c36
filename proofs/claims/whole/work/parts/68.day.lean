/-! ===== the weather ===== -/
theorem w_bef_s (t : Nat → Int) (d : Nat) : w_bef t (d + 1) = if t (d + 1) ≠ -1 then t (d + 1) else w_bef t d := rfl
theorem w_aft_s (t : Nat → Int) (d : Nat) : w_aft t (d + 1) = if t (99 - d) ≠ -1 then t (99 - d) else w_aft t d := rfl
theorem w_bef_b {t : Nat → Int} {hi : Int} (h : ∀ d, d < 101 → -1 ≤ t d ∧ t d ≤ hi) : ∀ d, d < 101 → -1 ≤ w_bef t d ∧ w_bef t d ≤ hi := by
  intro d
  induction d with
  | zero => intro hd; exact h 0 hd
  | succ d ih =>
    intro hd
    rw [w_bef_s]
    split
    · exact h _ hd
    · exact ih (by omega)
theorem w_aft_b {t : Nat → Int} {hi : Int} (h : ∀ d, d < 101 → -1 ≤ t d ∧ t d ≤ hi) : ∀ d, d < 101 → -1 ≤ w_aft t d ∧ w_aft t d ≤ hi := by
  intro d
  induction d with
  | zero => intro hd; exact h 100 (by decide)
  | succ d ih =>
    intro hd
    rw [w_aft_s]
    split
    · exact h _ (by omega)
    · exact ih (by omega)
/-- what a day of a row is ahead of itself -/
theorem w_bef_t {t : Nat → Int} {d : Nat} (h : t d ≠ -1) : w_bef t d = t d := by
  cases d with
  | zero => rfl
  | succ d => rw [w_bef_s, if_pos h]
theorem w_aft_t {t : Nat → Int} {d : Nat} (hd : d < 101) (h : t d ≠ -1) : w_aft t (100 - d) = t d := by
  rcases Nat.lt_or_ge d 100 with q | q
  · obtain ⟨k, hk⟩ : ∃ k, 100 - d = k + 1 := ⟨99 - d, by omega⟩
    have e : 99 - k = d := by omega
    rw [hk, w_aft_s, e, if_pos h]
  · have e : d = 100 := by omega
    subst e
    rfl
theorem w_rk_t {t : Nat → Int} {d : Nat} {n : Int} (hd : d < 101) (h : 0 ≤ t d) : w_rk n t d = t d := by
  unfold w_rk
  rw [w_bef_t (by omega), w_aft_t hd (by omega), if_neg (by omega), if_neg (by omega)]
  rw [Int.tdiv_eq_ediv_of_nonneg (by omega)]
  omega
set_option maxHeartbeats 4000000 in
/-- the class's reckoning of a row -/
theorem e_reckon {r0 r1 : Nat} {n hi : Int} {σ : pm_M} (hr : r0 ≠ r1) (hh : hi ≤ 60) (h : ∀ d, d < 101 → -1 ≤ σ r0 d ∧ σ r0 d ≤ hi) : ∃ σ', fX9_reckon r0 101 r1 101 n σ = some σ' ∧ (∀ c, c ≠ r1 → σ' c = σ c) ∧ ∀ d, d < 101 → σ' r1 d = w_rk n (σ r0) d := by
  have hB := w_bef_b h
  have hA := w_aft_b h
  unfold fX9_reckon
  obtain ⟨y, e1, hQ⟩ := pm_it_ok (f := fun a : Int × Int × pm_M => bdX9_reckon_5 r0 101 r1 101 n a.1 a.2.1 a.2.2)
    (fun a => ∃ z : Nat, a.2.1 = z ∧ z ≤ 101 ∧ a.1 = (if z = 0 then -1 else w_bef (σ r0) (z - 1)) ∧ (∀ c, c ≠ r1 → a.2.2 c = σ c) ∧ ∀ d, d < z → a.2.2 r1 d = w_bef (σ r0) d)
    (fun y => (∀ c, c ≠ r1 → y.2.2 c = σ c) ∧ ∀ d, d < 101 → y.2.2 r1 d = w_bef (σ r0) d) (fun a => 101 - a.2.1.toNat) (by
      rintro ⟨k, z0, τ⟩ ⟨z, hz, hle, hk, h1, h2⟩
      dsimp only at hz hk h1 h2 ⊢
      subst hz
      have t0 : τ r0 = σ r0 := h1 r0 hr
      by_cases c : z = 101
      · subst c
        refine Or.inl ⟨(k, ((101 : Nat) : Int), τ), ?_, h1, h2⟩
        unfold bdX9_reckon_5
        simp (disch := omega) only [wr_eq, if_pos, if_true]
      · have hb := h z (by omega)
        have step : ∀ k', k' = w_bef (σ r0) z → ∃ a' : Int × Int × pm_M, a' = (k', (z : Int) + 1, pm_up τ r1 z k') ∧ (∃ z' : Nat, a'.2.1 = z' ∧ z' ≤ 101 ∧ a'.1 = (if z' = 0 then -1 else w_bef (σ r0) (z' - 1)) ∧ (∀ c, c ≠ r1 → a'.2.2 c = σ c) ∧ ∀ d, d < z' → a'.2.2 r1 d = w_bef (σ r0) d) := by
          intro k' hk'
          refine ⟨_, rfl, z + 1, by simp, by omega, by rw [if_neg (by omega)]; exact hk', fun c hc => ?_, fun d hd => ?_⟩
          · dsimp only
            rw [pu_o hc]
            exact h1 c hc
          · dsimp only
            by_cases ed : d = z
            · rw [pu_eq ⟨rfl, ed⟩, ed]; exact hk'
            · rw [pu_ne (Or.inr ed)]; exact h2 d (by omega)
        by_cases c1 : σ r0 z = -1
        · obtain ⟨a', ha, hI⟩ := step k (by
            rw [hk]
            cases z with
            | zero => rw [if_pos rfl]; exact c1.symm
            | succ z => rw [if_neg (by omega), w_bef_s, if_neg (fun q => q c1)]; rfl)
          subst ha
          refine Or.inr ⟨_, ?_, hI, by simp; omega⟩
          unfold bdX9_reckon_5
          simp (disch := omega) only [t0, wr_eq, if_neg, if_pos, if_true, if_false, pm_gt, Int.toNat_natCast]
        · obtain ⟨a', ha, hI⟩ := step (σ r0 z) (w_bef_t c1).symm
          subst ha
          refine Or.inr ⟨_, ?_, hI, by simp; omega⟩
          unfold bdX9_reckon_5
          simp (disch := omega) only [t0, wr_eq, if_neg, if_pos, if_true, if_false, pm_gt, Int.toNat_natCast]) pm_fuel (-1, 0, σ)
    ⟨0, rfl, by omega, by rw [if_pos rfl], fun _ _ => rfl, fun d hd => by omega⟩ (pm_fl (show 101 - Int.toNat 0 < 100000 by decide))
  obtain ⟨y1, y2, τ⟩ := y
  obtain ⟨q1, q2⟩ := hQ
  dsimp only at q1 q2
  obtain ⟨y', e2, hQ'⟩ := pm_it_ok (f := fun a : Int × Int × pm_M => bdX9_reckon_43 r0 101 r1 101 n a.1 a.2.1 a.2.2)
    (fun a => ∃ z : Nat, a.2.1 = (z : Int) - 1 ∧ z ≤ 101 ∧ a.1 = (if z = 101 then -1 else w_aft (σ r0) (100 - z)) ∧ (∀ c, c ≠ r1 → a.2.2 c = σ c) ∧ (∀ d, d < z → a.2.2 r1 d = w_bef (σ r0) d) ∧ ∀ d, z ≤ d → d < 101 → a.2.2 r1 d = w_rk n (σ r0) d)
    (fun y => (∀ c, c ≠ r1 → y.2.2 c = σ c) ∧ ∀ d, d < 101 → y.2.2 r1 d = w_rk n (σ r0) d) (fun a => (a.2.1 + 1).toNat) (by
      rintro ⟨k, z0, ρ⟩ ⟨z, hz, hle, hk, h1, h2, h3⟩
      dsimp only at hz hk h1 h2 h3 ⊢
      subst hz
      have t0 : ρ r0 = σ r0 := h1 r0 hr
      by_cases c : z = 0
      · subst c
        refine Or.inl ⟨(k, ((0 : Nat) : Int) - 1, ρ), ?_, h1, fun d hd => h3 d (by omega) hd⟩
        unfold bdX9_reckon_43
        simp (disch := omega) only [wr_eq, if_pos, if_true]
      · obtain ⟨x, rfl⟩ : ∃ x, z = x + 1 := ⟨z - 1, by omega⟩
        have ex : ((x + 1 : Nat) : Int) - 1 = x := by omega
        have hb := h x (by omega)
        have bx := hB x (by omega)
        have ax := hA (100 - x) (by omega)
        have rx := h2 x (by omega)
        have kb : -1 ≤ k ∧ k ≤ 60 := by
          rw [hk]
          split
          · decide
          · have := hA (100 - (x + 1)) (by omega)
            omega
        have hbt : ∀ k', k' = w_aft (σ r0) (100 - x) → jnX9_reckon_62l43 r0 101 r1 101 n k' x ρ = some (.inr (k', (x : Int) + (-1), pm_up ρ r1 x (w_rk n (σ r0) x))) := by
          intro k' hk'
          unfold jnX9_reckon_62l43 fX9_between
          subst hk'
          unfold w_rk
          simp (disch := omega) only [wr_eq, pm_gt, Int.toNat_natCast, rx]
          by_cases c1 : w_bef (σ r0) x = -1
          · rw [if_pos c1, if_pos c1]
            by_cases c2 : w_aft (σ r0) (100 - x) = -1
            · rw [if_pos c2, if_pos c2]; rfl
            · rw [if_neg c2, if_neg c2]; rfl
          · rw [if_neg c1, if_neg c1]
            by_cases c2 : w_aft (σ r0) (100 - x) = -1
            · rw [if_pos c2, if_pos c2]; rfl
            · rw [if_neg c2, if_neg c2]; rfl
        have inv : ∀ k', k' = w_aft (σ r0) (100 - x) → ∃ z : Nat, (x : Int) + (-1) = (z : Int) - 1 ∧ z ≤ 101 ∧ k' = (if z = 101 then -1 else w_aft (σ r0) (100 - z)) ∧ (∀ c, c ≠ r1 → pm_up ρ r1 x (w_rk n (σ r0) x) c = σ c) ∧ (∀ d, d < z → pm_up ρ r1 x (w_rk n (σ r0) x) r1 d = w_bef (σ r0) d) ∧ ∀ d, z ≤ d → d < 101 → pm_up ρ r1 x (w_rk n (σ r0) x) r1 d = w_rk n (σ r0) d := by
          intro k' hk'
          refine ⟨x, by omega, by omega, by rw [if_neg (by omega)]; exact hk', fun c hc => by rw [pu_o hc]; exact h1 c hc, fun d hd => by rw [pu_ne (by omega)]; exact h2 d (by omega), fun d hd1 hd2 => ?_⟩
          by_cases ed : d = x
          · rw [pu_eq ⟨rfl, ed⟩, ed]
          · rw [pu_ne (Or.inr ed)]; exact h3 d (by omega) hd2
        rw [ex]
        by_cases c1 : σ r0 x = -1
        · have hk2 : k = w_aft (σ r0) (100 - x) := by
            rw [hk]
            by_cases q : x = 100
            · subst q; rw [if_pos rfl]; exact c1.symm
            · obtain ⟨j, hj⟩ : ∃ j, 100 - x = j + 1 := ⟨99 - x, by omega⟩
              rw [if_neg (by omega), hj, w_aft_s, show 99 - j = x by omega, if_neg (fun q => q c1), show 100 - (x + 1) = j by omega]
          refine Or.inr ⟨(k, (x : Int) + (-1), pm_up ρ r1 x (w_rk n (σ r0) x)), ?_, inv k hk2, by simp; omega⟩
          unfold bdX9_reckon_43
          simp (disch := omega) only [t0, wr_eq, if_neg, if_pos, if_true, if_false, pm_gt, Int.toNat_natCast, hbt k hk2]
        · have hk2 := (w_aft_t (t := σ r0) (d := x) (by omega) c1).symm
          refine Or.inr ⟨(σ r0 x, (x : Int) + (-1), pm_up ρ r1 x (w_rk n (σ r0) x)), ?_, inv _ hk2, by simp; omega⟩
          unfold bdX9_reckon_43
          simp (disch := omega) only [t0, wr_eq, if_neg, if_pos, if_true, if_false, pm_gt, Int.toNat_natCast, hbt _ hk2]) pm_fuel (-1, 100, τ)
    ⟨101, rfl, by omega, by rw [if_pos rfl], q1, q2, fun d h1 h2 => by omega⟩ (pm_fl (show Int.toNat (100 + 1) < 100000 by decide))
  rw [e1, Option.bind_some]
  dsimp only
  rw [e2, Option.bind_some]
  exact ⟨_, rfl, hQ'.1, hQ'.2⟩
theorem w_rk_b {t : Nat → Int} {hi n : Int} (h : ∀ d, d < 101 → -1 ≤ t d ∧ t d ≤ hi) (hn : 0 ≤ n ∧ n ≤ hi) {d : Nat} (hd : d < 101) : 0 ≤ w_rk n t d ∧ w_rk n t d ≤ hi := by
  have hB := w_bef_b h d hd
  have hA := w_aft_b h (100 - d) (by omega)
  unfold w_rk
  by_cases c1 : w_bef t d = -1
  · rw [if_pos c1]
    by_cases c2 : w_aft t (100 - d) = -1
    · rw [if_pos c2]; exact hn
    · rw [if_neg c2]; omega
  · rw [if_neg c1]
    by_cases c2 : w_aft t (100 - d) = -1
    · rw [if_pos c2]; omega
    · rw [if_neg c2, Int.tdiv_eq_ediv_of_nonneg (by omega)]; omega
