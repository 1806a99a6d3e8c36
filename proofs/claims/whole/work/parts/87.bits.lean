/-! ===== best: bits ===== -/
def pc (x : Nat) : Nat := x % 2 + x / 2 % 2 + x / 4 % 2 + x / 8 % 2 + x / 16 % 2 + x / 32 % 2 + x / 64 % 2 + x / 128 % 2 + x / 256 % 2 + x / 512 % 2 + x / 1024 % 2 + x / 2048 % 2
set_option maxRecDepth 100000 in
theorem bc_all : ∀ a : Nat, a < 64 → ∀ b : Nat, b < 64 → fJ6_bitCount_0f7a4 ((64 * a + b : Nat) : Int) = some ((pc (64 * a + b) : Nat) : Int) := by decide +kernel
set_option maxRecDepth 100000 in
theorem or_all : ∀ o : Nat, o < 12 → ∀ a : Nat, a < 64 → ∀ b : Nat, b < 64 → (64 * a + b).testBit o = false → pm_or ((64 * a + b : Nat) : Int) (pm_shl 1 (o : Int)) = ((64 * a + b ||| 2 ^ o : Nat) : Int) ∧ pc (64 * a + b ||| 2 ^ o) = pc (64 * a + b) + 1 := by decide +kernel
theorem bc_at {x : Nat} (h : x < 4096) : fJ6_bitCount_0f7a4 (x : Int) = some ((pc x : Nat) : Int) := by
  have e := bc_all (x / 64) (by omega) (x % 64) (by omega)
  rw [show 64 * (x / 64) + x % 64 = x by omega] at e
  exact e
theorem or_at {x o : Nat} (h : x < 4096) (ho : o < 12) (hb : x.testBit o = false) : pm_or (x : Int) (pm_shl 1 (o : Int)) = ((x ||| 2 ^ o : Nat) : Int) ∧ pc (x ||| 2 ^ o) = pc x + 1 ∧ x ||| 2 ^ o < 4096 := by
  have e := or_all o ho (x / 64) (by omega) (x % 64) (by omega)
  rw [show 64 * (x / 64) + x % 64 = x by omega] at e
  obtain ⟨e1, e2⟩ := e hb
  refine ⟨e1, e2, ?_⟩
  have h2 : 2 ^ o < 2 ^ 12 := Nat.pow_lt_pow_right (by decide) ho
  exact Nat.or_lt_two_pow (n := 12) h h2
theorem sh_at {k : Nat} (h : k ≤ 8) : pm_shl 1 (k : Int) = ((2 ^ k : Nat) : Int) := by
  rcases (show k = 0 ∨ k = 1 ∨ k = 2 ∨ k = 3 ∨ k = 4 ∨ k = 5 ∨ k = 6 ∨ k = 7 ∨ k = 8 by omega) with rfl | rfl | rfl | rfl | rfl | rfl | rfl | rfl | rfl <;> decide +kernel
theorem pc_b (x : Nat) : pc x ≤ 12 := by
  unfold pc
  omega
theorem bit_or {x o q : Nat} (h : (x ||| 2 ^ o).testBit q = true) : q = o ∨ x.testBit q = true := by
  rw [Nat.testBit_or, Nat.testBit_two_pow] at h
  rcases Bool.or_eq_true _ _ ▸ h with h | h
  · exact Or.inr h
  · exact Or.inl (of_decide_eq_true h).symm
