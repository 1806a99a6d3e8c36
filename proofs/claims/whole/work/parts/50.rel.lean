/-! ===== the pure part: pairs of answers, the relation ===== -/
def pp_ (R : pm_M → pm_M → Prop) (a b : Option (Int × pm_M)) : Prop := ∃ ρ ρ', a = some ρ ∧ b = some ρ' ∧ wr ρ.1 = wr ρ'.1 ∧ R ρ.2 ρ'.2
theorem pp_ret {R : pm_M → pm_M → Prop} {r r' : Int} {σ σ' : pm_M} (h : r = r') (hR : R σ σ') : pp_ R (some (r, σ)) (some (r', σ')) := ⟨_, _, rfl, rfl, by rw [h], hR⟩
theorem pp_l {R : pm_M → pm_M → Prop} {c : Prop} [Decidable c] {x y b : Option (Int × pm_M)} (h1 : c → pp_ R x b) (h2 : ¬ c → pp_ R y b) : pp_ R (if c then x else y) b := by
  by_cases h : c
  · rw [if_pos h]; exact h1 h
  · rw [if_neg h]; exact h2 h
theorem pp_r {R : pm_M → pm_M → Prop} {c : Prop} [Decidable c] {x y a : Option (Int × pm_M)} (h1 : c → pp_ R a x) (h2 : ¬ c → pp_ R a y) : pp_ R a (if c then x else y) := by
  by_cases h : c
  · rw [if_pos h]; exact h1 h
  · rw [if_neg h]; exact h2 h
theorem pp_lg {R : pm_M → pm_M → Prop} {c : Prop} [Decidable c] {x b : Option (Int × pm_M)} (hc : c) (h : pp_ R x b) : pp_ R (pm_g c x) b := by
  unfold pm_g; rw [if_pos hc]; exact h
theorem pp_rg {R : pm_M → pm_M → Prop} {c : Prop} [Decidable c] {x a : Option (Int × pm_M)} (hc : c) (h : pp_ R a x) : pp_ R a (pm_g c x) := by
  unfold pm_g; rw [if_pos hc]; exact h
theorem pp_lb {R : pm_M → pm_M → Prop} {α : Type} {f : Option α} {q : α} {g : α → Option (Int × pm_M)} {b : Option (Int × pm_M)} (hf : f = some q) (h : pp_ R (g q) b) : pp_ R (f.bind g) b := by
  rw [hf]; exact h
theorem pp_rb {R : pm_M → pm_M → Prop} {α : Type} {f : Option α} {q : α} {g : α → Option (Int × pm_M)} {a : Option (Int × pm_M)} (hf : f = some q) (h : pp_ R a (g q)) : pp_ R a (f.bind g) := by
  rw [hf]; exact h
theorem pm_up_c (σ : pm_M) (c j : Nat) (v : Int) (c' : Nat) : pm_up σ c j v c' = if c' = c then (fun i => if i = j then v else σ c i) else σ c' := by
  funext i
  unfold pm_up
  by_cases e : c' = c
  · subst e; simp
  · simp [e]
/-- two rows that hold the same numbers, within bounds -/
def r_eq (n : Nat) (lo hi : Int) (c m : Nat → Int) : Prop := ∀ i, i < n → c i = m i ∧ lo ≤ c i ∧ c i ≤ hi
theorem r_eq_up {n : Nat} {lo hi : Int} {c m : Nat → Int} {j : Nat} {v : Int} (h : r_eq n lo hi c m) (h1 : lo ≤ v) (h2 : v ≤ hi) : r_eq n lo hi (fun i => if i = j then v else c i) (fun i => if i = j then v else m i) := by
  intro i hi
  show (if i = j then v else c i) = (if i = j then v else m i) ∧ lo ≤ (if i = j then v else c i) ∧ (if i = j then v else c i) ≤ _
  by_cases e : i = j
  · rw [if_pos e, if_pos e]; exact ⟨rfl, h1, h2⟩
  · rw [if_neg e, if_neg e]; exact h i hi
def R_rf (σC σM : pm_M) : Prop := ∀ i, i < 7 → σC 93 i = σM 1 i
def R_rag (σC σM : pm_M) : Prop := r_eq 9 0 20 (σC 11) (σM 3) ∧ r_eq 9 1 40 (σC 12) (σM 4) ∧ r_eq 9 1 30 (σC 13) (σM 5) ∧ r_eq 9 0 20000 (σC 14) (σM 6)
def R_mon (σC σM : pm_M) : Prop := r_eq 9 0 99 (σC 91) (σM 7) ∧ (∀ i, i < 81 → σC 92 i = σM 8 i) ∧ σC 0 9 = σM 0 19 ∧ 0 ≤ σC 0 9 ∧ σC 0 9 ≤ 1000 ∧ σC 0 10 = σM 0 18
def R_ord (σC σM : pm_M) : Prop := σC 81 6 = σM 0 17 ∧ 0 ≤ σC 81 6 ∧ σC 81 6 ≤ 12 ∧ ∀ i : Nat, (i : Int) < σC 81 6 → (σC 82 i = σM 16 i ∧ 0 ≤ σC 82 i ∧ σC 82 i ≤ 8) ∧ (σC 83 i = σM 17 i ∧ 1 ≤ σC 83 i ∧ σC 83 i ≤ 8) ∧ (σC 84 i = σM 18 i ∧ 1 ≤ σC 84 i ∧ σC 84 i ≤ 20) ∧ (σC 85 i = σM 19 i ∧ 0 ≤ σC 85 i ∧ σC 85 i ≤ 100) ∧ (σC 86 i = σM 20 i ∧ 0 ≤ σC 86 i ∧ σC 86 i ≤ 999) ∧ (σC 87 i = σM 21 i ∧ (σC 87 i = -9 ∨ 0 ≤ σC 87 i ∧ σC 87 i ≤ 2400))
def R_old (σC σM : pm_M) : Prop := r_eq 6 (-1) 99 (σC 90) (σM 24)
/-- the mean of the neighbours that are told -/
def w_bef (t : Nat → Int) : Nat → Int
  | 0 => t 0
  | d + 1 => if t (d + 1) ≠ -1 then t (d + 1) else w_bef t d
def w_aft (t : Nat → Int) : Nat → Int
  | 0 => t 100
  | d + 1 => if t (99 - d) ≠ -1 then t (99 - d) else w_aft t d
def w_rk (none_ : Int) (t : Nat → Int) (d : Nat) : Int :=
  if w_bef t d = -1 then (if w_aft t (100 - d) = -1 then none_ else w_aft t (100 - d)) else (if w_aft t (100 - d) = -1 then w_bef t d else Int.tdiv (w_bef t d + w_aft t (100 - d)) 2)
def R_wea (σC σM : pm_M) : Prop := ∀ d, d < 101 → (σC 3 d = σM 2 d ∧ -1 ≤ σC 3 d ∧ σC 3 d ≤ 60) ∧ (σC 4 d = σM 2 (101 + d) ∧ -1 ≤ σC 4 d ∧ σC 4 d ≤ 9) ∧ (σC 5 d = σM 2 (202 + d) ∧ 0 ≤ σC 5 d ∧ σC 5 d ≤ 1) ∧ σC 7 d = w_rk 20 (σC 3) d ∧ σC 8 d = w_rk 4 (σC 4) d ∧ σC 9 d = σC 5 d
/-- what changes as hours pass, at the Works b -/
def T_num (b : Nat) (σC σM : pm_M) : Prop := σC b 7 = σM 25 751 ∧ 0 ≤ σC b 7 ∧ σC b 7 ≤ 2400 ∧ (∀ i, i < 9 → σC (b + 1) i = σM 25 (96 + i))
def T_bea (b : Nat) (σC σM : pm_M) : Prop := ∀ i, i < 4 → (σC (b + 3) i = σM 25 (80 + 4 * i) ∧ 0 ≤ σC (b + 3) i ∧ σC (b + 3) i ≤ 100) ∧ (σC (b + 4) i = σM 25 (81 + 4 * i) ∧ 0 ≤ σC (b + 4) i ∧ σC (b + 4) i ≤ 8) ∧ (σC (b + 5) i = σM 25 (82 + 4 * i) ∧ 0 ≤ σC (b + 5) i ∧ σC (b + 5) i ≤ 30 ∧ (σC (b + 3) i = 0 ↔ σC (b + 5) i = 0)) ∧ σC (b + 6) i = σM 25 (83 + 4 * i)
def T_mou (b : Nat) (σC σM : pm_M) : Prop := σC (b + 7) 3 = σM 0 16 ∧ 0 ≤ σC (b + 7) 3 ∧ σC (b + 7) 3 ≤ 4 ∧ (∀ i : Nat, (i : Int) < σC (b + 7) 3 → σC (b + 8) i = σM 11 i ∧ 1 ≤ σC (b + 8) i ∧ σC (b + 8) i ≤ 8) ∧ (∀ i, i < 48 → 0 ≤ σC (b + 9) i ∧ σC (b + 9) i ≤ 99) ∧ ∀ i, i < 8 → 0 ≤ σC (b + 10) i ∧ σC (b + 10) i ≤ 60 * σC b 7
def T_pos (b : Nat) (σC σM : pm_M) : Prop := σC (b + 11) 8 = σM 25 752 ∧ 0 ≤ σC (b + 11) 10 ∧ σC (b + 11) 10 ≤ σC (b + 11) 9 ∧ σC (b + 11) 9 ≤ σC (b + 11) 8 ∧ σC (b + 11) 8 ≤ 80 ∧ σC (b + 11) 11 = σM 0 20 ∧ 0 ≤ σC (b + 11) 11 ∧ σC (b + 11) 11 ≤ 40 ∧
  (∀ i : Nat, (i : Int) < σC (b + 11) 8 → (σC (b + 15) i = σM 25 (112 + 8 * i) ∧ 0 ≤ σC (b + 15) i ∧ σC (b + 15) i < σC (b + 7) 3) ∧ (σC (b + 16) i = σM 25 (113 + 8 * i) ∧ 0 ≤ σC (b + 16) i ∧ σC (b + 16) i ≤ 8) ∧ (σC (b + 17) i = σM 25 (114 + 8 * i) ∧ 0 ≤ σC (b + 17) i ∧ σC (b + 17) i ≤ σC b 7) ∧ (σC (b + 18) i = σM 25 (115 + 8 * i) ∧ (if (i : Int) < σC (b + 11) 9 then σC (b + 17) i ≤ σC (b + 18) i ∧ σC (b + 18) i ≤ σC b 7 else σC (b + 18) i = -9)) ∧ (σC (b + 19) i = σM 25 (116 + 8 * i) ∧ 0 ≤ σC (b + 19) i ∧ σC (b + 19) i ≤ 60 ∧ (if (i : Int) < σC (b + 11) 10 then 40 ≤ σC (b + 19) i else if (i : Int) < σC (b + 11) 9 then σC (b + 19) i < 40 else σC (b + 19) i = 0)) ∧ σC (b + 20) i = σM 25 (117 + 8 * i) ∧ (σC (b + 21) i = σM 25 (118 + 8 * i) ∧ (σC (b + 21) i = -9 ∨ 0 ≤ σC (b + 21) i ∧ σC (b + 21) i ≤ 58 ∧ (i : Int) < σC (b + 11) 10)) ∧
    σM 25 (111 + 8 * i) = (if σC (b + 21) i ≠ -9 then 3 else if (i : Int) < σC (b + 11) 10 then 2 else if (i : Int) < σC (b + 11) 9 then 1 else 0)) ∧
  (∀ i j : Nat, σC (b + 11) 10 ≤ i → i ≤ j → (j : Int) < σC (b + 11) 9 → σC (b + 19) j ≤ σC (b + 19) i) ∧ (∀ i j : Nat, i ≤ j → (j : Int) < σC (b + 11) 8 → σC (b + 17) i ≤ σC (b + 17) j)
def T_vat (b : Nat) (σC σM : pm_M) : Prop := (∀ v, v < 3 → ((σC (b + 23) v = -9 ∧ σM 14 v = -1) ∨ (σC (b + 23) v = σM 14 v ∧ 0 ≤ σC (b + 23) v ∧ σC (b + 23) v < σC (b + 7) 3)) ∧ (σC (b + 24) v = σM 15 v ∧ 0 ≤ σC (b + 24) v ∧ σC (b + 24) v ≤ 8) ∧ (σC (b + 25) v = σM 25 (105 + 2 * v) ∧ 0 ≤ σC (b + 25) v ∧ σC (b + 25) v < 60 ∧ (σC (b + 23) v = -9 → σC (b + 25) v = 0)) ∧ σC (b + 26) v = σM 25 (106 + 2 * v)) ∧ (∀ v w, v < 3 → w < 3 → v ≠ w → σC (b + 23) v = σC (b + 23) w → σC (b + 23) v = -9) ∧ σC (b + 22) 8 = σM 25 753
def T_hea (b : Nat) (σC σM : pm_M) : Prop := σC (b + 28) 5 = σM 0 15 ∧ 0 ≤ σC (b + 28) 5 ∧ σC (b + 28) 5 ≤ 40 ∧ σC (b + 28) 6 = σM 25 754 ∧ (∀ h : Nat, h < 40 → σC (b + 28) 5 ≤ h → σC (b + 32) h = 0 ∧ σM 25 (40 + h) = 0) ∧ ∀ h : Nat, (h : Int) < σC (b + 28) 5 → (σC (b + 29) h = σM 9 h ∧ 0 ≤ σC (b + 29) h ∧ σC (b + 29) h ≤ 8) ∧ (σC (b + 30) h = σM 25 h ∧ 0 ≤ σC (b + 30) h ∧ σC (b + 30) h ≤ 400) ∧ (σC (b + 31) h = σM 10 h ∧ 0 ≤ σC (b + 31) h ∧ σC (b + 31) h ≤ σC b 7) ∧ (σC (b + 32) h = σM 25 (40 + h) ∧ (0 < σC (b + 30) h → σC (b + 32) h = 0))
def R_tim (b : Nat) (σC σM : pm_M) : Prop := T_num b σC σM ∧ T_bea b σC σM ∧ T_mou b σC σM ∧ T_pos b σC σM ∧ T_vat b σC σM ∧ T_hea b σC σM
/-- sheets by a MOULD in a POST that is begun; how many of them are early -/
def k_n (g : Int) (q : Nat) : Int := (g + 1 - q) / 2
def k_E (s n : Int) : Int := if s % 50 < n then n - s % 50 else n
def R_mrk (σC σM : pm_M) : Prop := r_eq 48 0 99 (σC 24) (σM 12) ∧ (∀ m, m < 8 → σC 25 m = σM 13 m) ∧
  (∀ v, v < 3 → 0 ≤ σC 38 v → σC 25 (2 * (σC 38 v).toNat) = σC 25 (2 * (σC 38 v).toNat + 1) + σC 40 v % 2) ∧ (∀ p : Nat, p < 4 → (∀ v, v < 3 → σC 38 v ≠ p) → σC 25 (2 * p) = σC 25 (2 * p + 1)) ∧
  (∀ v q, v < 3 → q < 2 → 0 < σC 40 v → k_n (σC 40 v) q ≤ σC 25 (2 * (σC 38 v).toNat + q) % 50 → ∀ w, w < 6 → σC 42 (12 * v + 6 * q + w) = σC 24 (12 * (σC 38 v).toNat + 6 * q + w)) ∧
  (∀ v i w : Nat, v < 3 → (i : Int) < σC 40 v → w < 6 → σM 23 (6 * (60 * v + i) + w) = if ((i / 2 : Nat) : Int) < k_E (σC 25 (2 * (σC 38 v).toNat + i % 2)) (k_n (σC 40 v) (i % 2)) then σC 42 (12 * v + 6 * (i % 2) + w) else σC 24 (12 * (σC 38 v).toNat + 6 * (i % 2) + w)) ∧
  (∀ p : Nat, (p : Int) < σC 26 8 → 0 ≤ σC 29 p ∧ σC 29 p ≤ 30 ∧ ∀ i w : Nat, i < 60 → w < 6 → σM 22 (6 * (60 * p + i) + w) = σC 28 ((p * 4 + (if ((i / 2 : Nat) : Int) < σC 29 p then i % 2 else i % 2 + 2)) * 6 + w) ∧ 0 ≤ σM 22 (6 * (60 * p + i) + w) ∧ σM 22 (6 * (60 * p + i) + w) ≤ 99)
def pm_R (σC σM : pm_M) : Prop := R_rf σC σM ∧ R_rag σC σM ∧ R_mon σC σM ∧ R_ord σC σM ∧ R_old σC σM ∧ R_wea σC σM ∧ R_tim 15 σC σM ∧ R_mrk σC σM ∧ σM 0 32 = 0 ∧ ∀ i, i < 36 → 0 ≤ σC 42 i ∧ σC 42 i ≤ 99
