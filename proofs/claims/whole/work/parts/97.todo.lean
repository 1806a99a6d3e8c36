-- stand-ins until the pure part stands
theorem pm_todo : ∃ Rl : pm_M → pm_M → Prop, pm_Steps Rl ∧ Rl (sgC_X11_init0 sg_0) (sgM_X12_init0 sg_0) := sorry
theorem whole_start {p : Program} {e : Env} {s : State} {m : MethodId} {below : List Frame} {meth : Method} {c : Code} (l : Launch) {b L : Nat} {xs : Nat → Int32} (hL : L ≤ 3072) (C0 : lw_At p s m meth c b L xs) : W p l e room_1 s m #[Value.ref b] below meth c s.heap [] 0 0 (lw_Z below #[Value.ref b] s) (entryFrame m ([Value.ref b] : List Value).toArray 4) := by
  obtain ⟨Rl, h1, h2⟩ := pm_todo
  exact whole_open l hL C0 h1 h2
