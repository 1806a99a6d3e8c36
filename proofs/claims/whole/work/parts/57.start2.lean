theorem st_rag : R_rag sC0 sM0 := by
  refine ⟨fun i hi => ?_, fun i hi => ?_, fun i hi => ?_, fun i hi => ⟨rfl, Int.le_refl _, show (0 : Int) ≤ 20000 by decide⟩⟩
  · obtain ⟨a, b, -⟩ := (st_vals i).1 hi
    rw [a, b]; decide
  · obtain ⟨-, -, a, b, -⟩ := (st_vals i).1 hi
    rw [a, b]; decide
  · obtain ⟨-, -, -, -, a, b⟩ := (st_vals i).1 hi
    rw [a, b]; decide
theorem st_wea : R_wea sC0 sM0 := by
  intro d hd
  obtain ⟨a, b, c, e⟩ := (st_vals d).2.1 hd
  have f := (st_vals d).2.2 (by omega)
  have g := (st_vals (101 + d)).2.2 (by omega)
  have k3 : ∀ i, i ≤ 100 → sC0 3 i = -1 := fun i hi => ((st_vals i).2.1 (by omega)).1
  have k4 : ∀ i, i ≤ 100 → sC0 4 i = -1 := fun i hi => ((st_vals i).2.1 (by omega)).2.1
  have m5 : sC0 5 d = 0 := rfl
  have m9 : sC0 9 d = 0 := rfl
  have mM : sM0 2 (202 + d) = 0 := by
    show (if 2 = 2 ∧ 202 + d < 202 then (-1 : Int) else 0) = 0
    rw [if_neg (by omega)]
  refine ⟨⟨by rw [a, f], by rw [a]; decide, by rw [a]; decide⟩, ⟨by rw [b, g], by rw [b]; decide, by rw [b]; decide⟩, ⟨by rw [m5, mM], by rw [m5]; decide, by rw [m5]; decide⟩, ?_, ?_, by rw [m9, m5]⟩
  · rw [c, w_rk_n hd k3]
  · rw [e, w_rk_n hd k4]
theorem st_old : R_old sC0 sM0 := by
  intro i hi
  rcases (show i = 0 ∨ i = 1 ∨ i = 2 ∨ i = 3 ∨ i = 4 ∨ i = 5 by omega) with rfl | rfl | rfl | rfl | rfl | rfl <;> decide
theorem st_tim : R_tim 15 sC0 sM0 := by
  refine ⟨⟨rfl, Int.le_refl _, by decide, fun i _ => rfl⟩, ?_, ⟨rfl, Int.le_refl _, by decide, fun i hi => ?_, fun i _ => ⟨Int.le_refl _, show (0 : Int) ≤ 99 by decide⟩, fun i _ => ⟨Int.le_refl _, Int.le_refl _⟩⟩, ⟨rfl, Int.le_refl _, Int.le_refl _, Int.le_refl _, by decide, by decide, by decide, by decide, fun i hi => ?_, fun i j _ _ hj => ?_, fun i j _ hj => ?_⟩, ⟨?_, ?_, rfl⟩, ⟨rfl, Int.le_refl _, by decide, rfl, fun h _ _ => ⟨rfl, rfl⟩, fun h hh => ?_⟩⟩
  · intro i hi
    rcases (show i = 0 ∨ i = 1 ∨ i = 2 ∨ i = 3 by omega) with rfl | rfl | rfl | rfl <;> decide
  · have h0 : (i : Int) < 0 := hi
    omega
  · have h0 : (i : Int) < 0 := hi
    omega
  · have h0 : (j : Int) < 0 := hj
    omega
  · have h0 : (j : Int) < 0 := hj
    omega
  · intro v hv
    rcases (show v = 0 ∨ v = 1 ∨ v = 2 by omega) with rfl | rfl | rfl <;> decide
  · intro v w hv hw hne _
    rcases (show v = 0 ∨ v = 1 ∨ v = 2 by omega) with rfl | rfl | rfl <;> decide
  · have h0 : (h : Int) < 0 := hh
    omega
