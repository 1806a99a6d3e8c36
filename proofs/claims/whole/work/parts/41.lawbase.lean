/-! ===== the law: what its start gives ===== -/
theorem lw_cls : ∀ (ci : Nat) (q : vw_C), vwCl[ci]? = some q → pm_Cok q ∧ Cond.instantiable q.1 q.2.2 ∈ lw_tbl := fun ci q h => match ci, h with
  | 0, h => by cases h; exact ⟨cok_X0, List.mem_of_getElem? (i := 123) (by decide +kernel)⟩
  | 1, h => by cases h; exact ⟨cok_X1, List.mem_of_getElem? (i := 285) (by decide +kernel)⟩
  | 2, h => by cases h; exact ⟨cok_X2, List.mem_of_getElem? (i := 178) (by decide +kernel)⟩
  | 3, h => by cases h; exact ⟨cok_X3, List.mem_of_getElem? (i := 146) (by decide +kernel)⟩
  | 4, h => by cases h; exact ⟨cok_X4, List.mem_of_getElem? (i := 396) (by decide +kernel)⟩
  | 5, h => by cases h; exact ⟨cok_X5, List.mem_of_getElem? (i := 350) (by decide +kernel)⟩
  | 6, h => by cases h; exact ⟨cok_X6, List.mem_of_getElem? (i := 172) (by decide +kernel)⟩
  | 7, h => by cases h; exact ⟨cok_X7, List.mem_of_getElem? (i := 91) (by decide +kernel)⟩
  | 8, h => by cases h; exact ⟨cok_X8, List.mem_of_getElem? (i := 245) (by decide +kernel)⟩
  | 9, h => by cases h; exact ⟨cok_X9, List.mem_of_getElem? (i := 70) (by decide +kernel)⟩
  | 10, h => by cases h; exact ⟨cok_X10, List.mem_of_getElem? (i := 117) (by decide +kernel)⟩
  | 11, h => by cases h; exact ⟨cok_X11, List.mem_of_getElem? (i := 62) (by decide +kernel)⟩
  | 12, h => by cases h; exact ⟨cok_X12, List.mem_of_getElem? (i := 912) (by decide +kernel)⟩
  | n + 13, h => by simp [vwCl] at h
theorem lw_inG {w : Cond} (h : w ∈ pm_G) : w ∈ lw_tbl := (List.mem_filter.mp h).1
theorem lw_mAO : Cond.arrayOver (.array .int) ∈ lw_tbl := List.mem_of_getElem? (i := 76) (by decide +kernel)
theorem lw_mAC : Cond.arrayClass .int ∈ lw_tbl := List.mem_of_getElem? (i := 89) (by decide +kernel)
theorem lw_mIni : Cond.initialized "PaperMill" ∈ lw_tbl := List.mem_of_getElem? (i := 44) (by decide +kernel)
theorem lw_mLS0 : Cond.laysStatic "PaperMill" "ROW_WHEN_NONE" "[I" ∈ lw_tbl := List.mem_of_getElem? (i := 81) (by decide +kernel)
theorem lw_mLS1 : Cond.laysStatic "PaperMill" "ROW_LEAST" "[I" ∈ lw_tbl := List.mem_of_getElem? (i := 468) (by decide +kernel)
theorem lw_mLS2 : Cond.laysStatic "PaperMill" "ROW_GREATEST" "[I" ∈ lw_tbl := List.mem_of_getElem? (i := 470) (by decide +kernel)
theorem lw_elem {args : Array Value} {s : State} {tm : Term} {a b c : Int32} {l : List Int} (hl : l.map Int32.ofInt = [a, b, c]) (h0 : (Cond.eq (.elem tm (.int 0)) (.int a)).before args s = true) (h1 : (Cond.eq (.elem tm (.int 1)) (.int b)).before args s = true) (h2 : (Cond.eq (.elem tm (.int 2)) (.int c)).before args s = true) :
    ∀ j : Nat, j < 3 → (Term.elem tm (.int (Int32.ofNat j))).eval args s none [] s = some (.int (Int32.ofInt (l.getD j 0))) := by
  have hl3 : ∃ x y z, l = [x, y, z] := by
    match l, hl with
    | [x, y, z], _ => exact ⟨x, y, z, rfl⟩
  obtain ⟨x, y, z, rfl⟩ := hl3
  simp only [List.map_cons, List.map_nil, List.cons.injEq, and_true] at hl
  obtain ⟨e0, e1, e2⟩ := hl
  intro j hj
  rcases (show j = 0 ∨ j = 1 ∨ j = 2 by omega) with rfl | rfl | rfl
  · show (Term.elem tm (.int 0)).eval args s none [] s = some (.int (Int32.ofInt x))
    rw [e0]; exact va_eqt h0
  · show (Term.elem tm (.int 1)).eval args s none [] s = some (.int (Int32.ofInt y))
    rw [e1]; exact va_eqt h1
  · show (Term.elem tm (.int 2)).eval args s none [] s = some (.int (Int32.ofInt z))
    rw [e2]; exact va_eqt h2
theorem lw_k {p : Program} {s : State} {m : MethodId} {meth : Method} {c : Code} {b L : Nat} {xs : Nat → Int32} (C0 : lw_At p s m meth c b L xs) : ∃ k : pm_K, va_K k.1 vwCl (pm_tys k) s ∧ pm_Sf k (fun q => s.heap.size ≤ q) s s.heap := by
  obtain ⟨hx, hb, hr, hml, hown, hts, hX, hbl, hlocks, hgv⟩ := C0
  have hcl : ∀ ci : Nat, ∃ q : ClassId × (Nat → Nat), ∀ r : vw_C, vwCl[ci]? = some r → u_Kn s r.1 r.2.1 r.2.2 q.1 q.2 := by
    intro ci
    cases h : vwCl[ci]? with
    | none => exact ⟨(0, fun _ => 0), fun r hr => by cases hr⟩
    | some r =>
      obtain ⟨hok, hin⟩ := lw_cls ci r h
      obtain ⟨cC, iS, hk⟩ := u_known (C := r.1) (T := r.2.1) (N := r.2.2) hts (fun w hw => lw_inG (hok.1 w hw)) (hts _ hin)
      exact ⟨(cC, iS), fun r' hr => by cases hr; exact hk⟩
  obtain ⟨cI, kI, comp, n1, n2, n3⟩ := Cond.arrayClass_spec (hts _ lw_mAC)
  obtain ⟨comp2, cII, kII, m1, m2, m3, m4⟩ := Cond.arrayOver_specA (hts _ lw_mAO)
  have hs := flat_of_before _ hgv
  have hA : ∀ a : Nat, a < s.heap.size → ¬ s.heap.size ≤ a := fun a h => Nat.not_le.mpr h
  obtain ⟨t0, ht0, hT0⟩ := va_Tof (tm := .static "PaperMill" "ROW_WHEN_NONE" "[I") (ty := .int) (N := 3) (f := fun i => .int (Int32.ofInt (([20, 4, 0] : List Int).getD i 0))) (A := fun q => s.heap.size ≤ q) (by decide) (hs _ (by decide +kernel)) (va_eqt (z := 3) (hs _ (by decide +kernel))) (lw_elem (l := [20, 4, 0]) rfl (hs _ (by decide +kernel)) (hs _ (by decide +kernel)) (hs _ (by decide +kernel))) hA
  have hZ0 := va_Zref (A := fun q => s.heap.size ≤ q) (hts _ lw_mLS0) (hts _ lw_mIni) ht0 hA
  obtain ⟨t1, ht1, hT1⟩ := va_Tof (tm := .static "PaperMill" "ROW_LEAST" "[I") (ty := .int) (N := 3) (f := fun i => .int (Int32.ofInt (([-1, -1, 0] : List Int).getD i 0))) (A := fun q => s.heap.size ≤ q) (by decide) (hs _ (by decide +kernel)) (va_eqt (z := 3) (hs _ (by decide +kernel))) (lw_elem (l := [-1, -1, 0]) rfl (hs _ (by decide +kernel)) (hs _ (by decide +kernel)) (hs _ (by decide +kernel))) hA
  have hZ1 := va_Zref (A := fun q => s.heap.size ≤ q) (hts _ lw_mLS1) (hts _ lw_mIni) ht1 hA
  obtain ⟨t2, ht2, hT2⟩ := va_Tof (tm := .static "PaperMill" "ROW_GREATEST" "[I") (ty := .int) (N := 3) (f := fun i => .int (Int32.ofInt (([60, 9, 1] : List Int).getD i 0))) (A := fun q => s.heap.size ≤ q) (by decide) (hs _ (by decide +kernel)) (va_eqt (z := 3) (hs _ (by decide +kernel))) (lw_elem (l := [60, 9, 1]) rfl (hs _ (by decide +kernel)) (hs _ (by decide +kernel)) (hs _ (by decide +kernel))) hA
  have hZ2 := va_Zref (A := fun q => s.heap.size ≤ q) (hts _ lw_mLS2) (hts _ lw_mIni) ht2 hA
  refine ⟨((fun ci => (Classical.choose (hcl ci)).1, fun ci => (Classical.choose (hcl ci)).2), cI, cII, fun j => if j = 0 then t0 else if j = 1 then t1 else t2), ⟨fun ci q hq => Classical.choose_spec (hcl ci) q hq, fun j q hq => ?_⟩, fun j q hq => ?_, fun w hw => ?_, hts _ lw_mAO⟩
  · match j, hq with
    | 0, hq => cases hq; exact ⟨fun n z => ⟨fun k h => (by cases h), kI, n2, comp, n3⟩, n1⟩
    | 1, hq => cases hq; exact ⟨fun n z => ⟨fun k h => (by cases h), kII, m2, comp2, m3⟩, m4⟩
    | n + 2, hq => simp [pm_tys] at hq
  · match j, hq with
    | 0, hq => cases hq; exact ⟨hZ0, hT0⟩
    | 1, hq => cases hq; exact ⟨hZ1, hT1⟩
    | 2, hq => cases hq; exact ⟨hZ2, hT2⟩
    | n + 3, hq => simp [pm_st] at hq
  · have h2 := List.mem_filter.mp hw
    refine va_Nw.of ?_ (hts w h2.1)
    have h3 := h2.2
    revert h3
    cases w <;> first | (intro z; rfl) | (intro z; simp [pm_isN] at z)
