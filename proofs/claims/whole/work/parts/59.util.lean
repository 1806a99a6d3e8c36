/-! ===== reading through updates, guards, two loops side by side ===== -/
theorem pm_gt {α : Type} {c : Prop} [Decidable c] {x : Option α} (h : c) : pm_g c x = x := if_pos h
theorem pu_ne {σ : pm_M} {c j : Nat} {v : Int} {c' j' : Nat} (h : c' ≠ c ∨ j' ≠ j) : pm_up σ c j v c' j' = σ c' j' := by
  unfold pm_up
  exact if_neg (fun q => by rcases h with h | h; exact h q.1; exact h q.2)
theorem pu_eq {σ : pm_M} {c j : Nat} {v : Int} {c' j' : Nat} (h : c' = c ∧ j' = j) : pm_up σ c j v c' j' = v := by
  unfold pm_up
  exact if_pos h
theorem pu_o {σ : pm_M} {c j : Nat} {v : Int} {c' : Nat} (h : c' ≠ c) : pm_up σ c j v c' = σ c' := by
  funext i
  exact pu_ne (Or.inl h)
/-- two loops side by side -/
theorem pm_it_2 {α β α' β' : Type} {f : α → Option (β ⊕ α)} {g : α' → Option (β' ⊕ α')} (I : Nat → α → α' → Prop) (Q : β → β' → Prop)
    (hs : ∀ n a a', I n a a' → (∃ y y', f a = some (.inl y) ∧ g a' = some (.inl y') ∧ Q y y') ∨ (∃ z z' m, f a = some (.inr z) ∧ g a' = some (.inr z') ∧ m < n ∧ I m z z')) :
    ∀ N n a a', I n a a' → n < N → ∃ y y', pm_it f N a = some y ∧ pm_it g N a' = some y' ∧ Q y y' := by
  intro N
  induction N with
  | zero => intro n a a' _ h; omega
  | succ N ih =>
    intro n a a' hI hn
    rcases hs n a a' hI with ⟨y, y', h1, h2, h3⟩ | ⟨z, z', m, h1, h2, h3, h4⟩
    · exact ⟨y, y', by unfold pm_it; rw [h1]; rfl, by unfold pm_it; rw [h2]; rfl, h3⟩
    · obtain ⟨y, y', g1, g2, g3⟩ := ih m z z' h4 (by omega)
      exact ⟨y, y', by unfold pm_it; rw [h1]; exact g1, by unfold pm_it; rw [h2]; exact g2, g3⟩
/-! ===== what the parts of the relation look at ===== -/
section CG
variable {b : Nat} {σC σM σC' σM' : pm_M}
theorem T_num_cg (h : T_num b σC σM) (c0 : σC' b 7 = σC b 7) (c1 : ∀ i, i < 9 → σC' (b + 1) i = σC (b + 1) i) (m1 : σM' 25 751 = σM 25 751) (m2 : ∀ j, 96 ≤ j → j < 105 → σM' 25 j = σM 25 j) : T_num b σC' σM' := by
  obtain ⟨h1, h2, h3, h4⟩ := h
  exact ⟨by rw [c0, m1]; exact h1, by rw [c0]; exact h2, by rw [c0]; exact h3, fun i hi => by rw [c1 i hi, m2 _ (by omega) (by omega)]; exact h4 i hi⟩
theorem T_bea_cg (h : T_bea b σC σM) (c : ∀ k, 3 ≤ k → k ≤ 6 → σC' (b + k) = σC (b + k)) (m : ∀ j, 80 ≤ j → j < 96 → σM' 25 j = σM 25 j) : T_bea b σC' σM' := by
  intro i hi
  rw [c 3 (by decide) (by decide), c 4 (by decide) (by decide), c 5 (by decide) (by decide), c 6 (by decide) (by decide), m (80 + 4 * i) (by omega) (by omega), m (81 + 4 * i) (by omega) (by omega), m (82 + 4 * i) (by omega) (by omega), m (83 + 4 * i) (by omega) (by omega)]
  exact h i hi
theorem T_mou_cg (h : T_mou b σC σM) (c0 : σC' b 7 = σC b 7) (c : ∀ k, 7 ≤ k → k ≤ 10 → σC' (b + k) = σC (b + k)) (m0 : σM' 0 16 = σM 0 16) (m1 : σM' 11 = σM 11) : T_mou b σC' σM' := by
  unfold T_mou at h ⊢
  rw [c 7 (by decide) (by decide), c 8 (by decide) (by decide), c 9 (by decide) (by decide), c 10 (by decide) (by decide), c0, m0, m1]
  exact h
theorem T_pos_cg (h : T_pos b σC σM) (c0 : σC' b 7 = σC b 7) (c7 : σC' (b + 7) 3 = σC (b + 7) 3) (c11 : σC' (b + 11) = σC (b + 11)) (c : ∀ k, 15 ≤ k → k ≤ 21 → σC' (b + k) = σC (b + k)) (m0 : σM' 0 20 = σM 0 20) (m1 : σM' 25 752 = σM 25 752) (m : ∀ j, 111 ≤ j → j < 751 → σM' 25 j = σM 25 j) : T_pos b σC' σM' := by
  obtain ⟨p1, p2, p3, p4, p5, p6, p7, p8, p9, p10, p11⟩ := h
  unfold T_pos
  rw [c11, c 15 (by decide) (by decide), c 16 (by decide) (by decide), c 17 (by decide) (by decide), c 18 (by decide) (by decide), c 19 (by decide) (by decide), c 20 (by decide) (by decide), c 21 (by decide) (by decide), c0, c7, m0, m1]
  refine ⟨p1, p2, p3, p4, p5, p6, p7, p8, fun i hi => ?_, p10, p11⟩
  rw [m (111 + 8 * i) (by omega) (by omega), m (112 + 8 * i) (by omega) (by omega), m (113 + 8 * i) (by omega) (by omega), m (114 + 8 * i) (by omega) (by omega), m (115 + 8 * i) (by omega) (by omega), m (116 + 8 * i) (by omega) (by omega), m (117 + 8 * i) (by omega) (by omega), m (118 + 8 * i) (by omega) (by omega)]
  exact p9 i hi
theorem T_vat_cg (h : T_vat b σC σM) (c7 : σC' (b + 7) 3 = σC (b + 7) 3) (c : ∀ k, 22 ≤ k → k ≤ 26 → σC' (b + k) = σC (b + k)) (m14 : σM' 14 = σM 14) (m15 : σM' 15 = σM 15) (m1 : σM' 25 753 = σM 25 753) (m : ∀ j, 105 ≤ j → j < 111 → σM' 25 j = σM 25 j) : T_vat b σC' σM' := by
  obtain ⟨p1, p2, p3⟩ := h
  unfold T_vat
  rw [c 22 (by decide) (by decide), c 23 (by decide) (by decide), c 24 (by decide) (by decide), c 25 (by decide) (by decide), c 26 (by decide) (by decide), c7, m14, m15, m1]
  refine ⟨fun v hv => ?_, p2, p3⟩
  rw [m (105 + 2 * v) (by omega) (by omega), m (106 + 2 * v) (by omega) (by omega)]
  exact p1 v hv
theorem T_hea_cg (h : T_hea b σC σM) (c0 : σC' b 7 = σC b 7) (c : ∀ k, 28 ≤ k → k ≤ 32 → σC' (b + k) = σC (b + k)) (m0 : σM' 0 15 = σM 0 15) (m9 : σM' 9 = σM 9) (m10 : σM' 10 = σM 10) (m1 : σM' 25 754 = σM 25 754) (m : ∀ j, j < 80 → σM' 25 j = σM 25 j) : T_hea b σC' σM' := by
  obtain ⟨p1, p2, p3, p4, p5, p6⟩ := h
  unfold T_hea
  rw [c 28 (by decide) (by decide), c 29 (by decide) (by decide), c 30 (by decide) (by decide), c 31 (by decide) (by decide), c 32 (by decide) (by decide), c0, m0, m9, m10, m1]
  refine ⟨p1, p2, p3, p4, fun i hi => ?_, fun i hi => ?_⟩
  · rw [m (40 + i) (by omega)]
    exact p5 i hi
  · rw [m (40 + i) (by omega), m i (by omega)]
    exact p6 i hi
end CG
/-- two loops side by side, where either may go on alone -/
theorem pm_it_3 {α β α' β' : Type} {f : α → Option (β ⊕ α)} {g : α' → Option (β' ⊕ α')} (I : Nat → α → α' → Prop) (Q : β → β' → Prop)
    (hs : ∀ n a a', I n a a' → (∃ y y', f a = some (.inl y) ∧ g a' = some (.inl y') ∧ Q y y') ∨ (∃ z z' m, f a = some (.inr z) ∧ g a' = some (.inr z') ∧ m < n ∧ I m z z') ∨ (∃ z m, f a = some (.inr z) ∧ m < n ∧ I m z a') ∨ (∃ z' m, g a' = some (.inr z') ∧ m < n ∧ I m a z')) :
    ∀ n N N' a a', I n a a' → n < N → n < N' → ∃ y y', pm_it f N a = some y ∧ pm_it g N' a' = some y' ∧ Q y y' := by
  intro n
  induction n using Nat.strongRecOn with
  | ind n ih =>
    intro N N' a a' hI h1 h2
    obtain ⟨N, rfl⟩ : ∃ k, N = k + 1 := ⟨N - 1, by omega⟩
    obtain ⟨N', rfl⟩ : ∃ k, N' = k + 1 := ⟨N' - 1, by omega⟩
    rcases hs n a a' hI with ⟨y, y', e1, e2, e3⟩ | ⟨z, z', m, e1, e2, e3, e4⟩ | ⟨z, m, e1, e3, e4⟩ | ⟨z', m, e2, e3, e4⟩
    · exact ⟨y, y', by unfold pm_it; rw [e1]; rfl, by unfold pm_it; rw [e2]; rfl, e3⟩
    · obtain ⟨y, y', g1, g2, g3⟩ := ih m e3 N N' z z' e4 (by omega) (by omega)
      exact ⟨y, y', by unfold pm_it; rw [e1]; exact g1, by unfold pm_it; rw [e2]; exact g2, g3⟩
    · obtain ⟨y, y', g1, g2, g3⟩ := ih m e3 N (N' + 1) z a' e4 (by omega) (by omega)
      exact ⟨y, y', by unfold pm_it; rw [e1]; exact g1, g2, g3⟩
    · obtain ⟨y, y', g1, g2, g3⟩ := ih m e3 (N + 1) N' a z' e4 (by omega) (by omega)
      exact ⟨y, y', g1, by unfold pm_it; rw [e2]; exact g2, g3⟩
theorem pm_fl {n : Nat} (h : n < 100000) : n < pm_fuel := h
