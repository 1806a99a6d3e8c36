-- the pairs that are still wanting stand here with sorry; take a row away when its s_ row is proved in a part ahead of this one
theorem s_best : sp_best pm_R := sorry
theorem s_bestWorth : sp_bestWorth pm_R := sorry
theorem pm_steps : pm_Steps pm_R := ⟨s_day, s_dayOf, s_kind, s_rags, s_heap, s_load, s_pair, s_wire, s_mouldOf, s_vat, s_furnish, s_loft, s_hides, s_size, s_sizeAll, s_duty, s_order, s_fill, s_best, s_bestWorth, s_hours, s_foretell, s_when, s_mark, s_oldA, s_oldB, s_lies, s_nearest, s_span, s_heapOf, s_beaterOf, s_vatOf, s_postOf, s_orderOf, s_sheets, s_count⟩
theorem whole_start {p : Program} {e : Env} {s : State} {m : MethodId} {below : List Frame} {meth : Method} {c : Code} (l : Launch) {b L : Nat} {xs : Nat → Int32} (hL : L ≤ 3072) (C0 : lw_At p s m meth c b L xs) : W p l e room_1 s m #[Value.ref b] below meth c s.heap [] 0 0 (lw_Z below #[Value.ref b] s) (entryFrame m ([Value.ref b] : List Value).toArray 4) := whole_open l hL C0 pm_steps pm_start
