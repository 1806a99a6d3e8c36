theorem nwl_7 : Cond.classLink R_law 7 RX11 ∈ pm_G ∧ Cond.instantiable RX11 11 ∈ pm_G ∧ Cond.initialized RX11 ∈ pm_G := ⟨pm_inG 61 (by decide +kernel) rfl, pm_inG 62 (by decide +kernel) rfl, pm_inG 44 (by decide +kernel) rfl⟩
theorem nwl_10 : Cond.classLink R_law 10 RX12 ∈ pm_G ∧ Cond.instantiable RX12 36 ∈ pm_G ∧ Cond.initialized RX12 ∈ pm_G := ⟨pm_inG 911 (by decide +kernel) rfl, pm_inG 912 (by decide +kernel) rfl, pm_inG 57 (by decide +kernel) rfl⟩
theorem mbl_X11_init : pm_MB mX11_init 0 := ⟨pm_inG 44 (by decide +kernel) rfl, pm_inG 65 (by decide +kernel) rfl, by decide +kernel, by decide +kernel, by decide +kernel⟩
theorem mi_L_9 : pm_MI R_law 9 mX11_init 0 := ⟨mbl_X11_init, pm_inG 63 (by decide +kernel) rfl, pm_inG 64 (by decide +kernel) rfl, rfl, rfl⟩
theorem mbl_X12_init : pm_MB mX12_init 0 := ⟨pm_inG 57 (by decide +kernel) rfl, pm_inG 915 (by decide +kernel) rfl, by decide +kernel, by decide +kernel, by decide +kernel⟩
theorem mi_L_12 : pm_MI R_law 12 mX12_init 0 := ⟨mbl_X12_init, pm_inG 913 (by decide +kernel) rfl, pm_inG 914 (by decide +kernel) rfl, rfl, rfl⟩
/-! ===== the law: its loop, its start ===== -/
theorem lw_cond {L i : Nat} (hL : L ≤ 3072) (hi : i ≤ 4000) : (nI L - 6 < nI i) ↔ (L : Int) - 6 < i := by
  have e1 : nI L - 6 = Int32.ofInt ((L : Int) - 6) := pm_sub (L : Int) 6
  have e2 : nI i = Int32.ofInt (i : Int) := rfl
  rw [e1, e2, pm_lt, wr_eq (x := (L : Int) - 6) (by omega) (by omega), wr_nat (by omega)]
set_option maxHeartbeats 4000000 in
set_option maxRecDepth 100000 in
theorem lw_loop {p : Program} {l : Launch} {e : Env} {s : State} {m : MethodId} {below : List Frame} {meth : Method} {c : Code} {b L : Nat} {xs : Nat → Int32} {k : pm_K} {adC adM : Nat → Nat} {Rl : pm_M → pm_M → Prop} (hst : pm_Steps Rl) (C0 : lw_At p s m meth c b L xs) (hK : va_K k.1 vwCl (pm_tys k) s) (hSf : pm_Sf k (fun q => s.heap.size ≤ q) s s.heap) (hL : L ≤ 3072) :
    ∀ (n i : Nat), i ≤ 4000 → L + 6 ≤ i + 6 * n → ∀ (σC σM : pm_M) (H : Heap) (locs : List Loc) (ls : Array Slot), Rl σC σM → lw_Wd k adC adM (fun q => s.heap.size ≤ q) σC σM H → va_S (fun q => s.heap.size ≤ q) s.heap H locs → lv_has ls 4 [(0, .ref b), (1, .ref (adC 0)), (2, .ref (adM 0)), (3, .int (nI i))] → W p l e room_1 s m #[Value.ref b] below meth c H locs 600000 7302249 (lw_Z below #[Value.ref b] s) (F0 m 18 ls []) := by
  obtain ⟨hx, hb, hr, hml, hown, hts, hX, hbl, hlocks, hgv⟩ := id C0
  have hbA : ¬ (fun q : Nat => s.heap.size ≤ q) b := Nat.not_le.mpr hbl
  have hend : ∀ (H : Heap) (locs : List Loc) (ls : Array Slot), va_S (fun q => s.heap.size ≤ q) s.heap H locs → W p l e room_1 s m #[Value.ref b] below meth c H locs 600000 7302249 (lw_Z below #[Value.ref b] s) (F0 m 1382 ls []) := by
    intro H locs ls hS
    refine lv_iconst (v := 1) hx hb dL_law_1382 (by decide) ?_
    refine va_forget (fun q hq => hS.2.2 q hq) ?_
    exact lw_ret hx hb hr hlocks dL_law_1383
  intro n
  induction n with
  | zero =>
    intro i h4 h1 σC σM H locs ls hRl hW hS hl
    refine lv_iload_n hx hb dL_law_18 rfl (lv_at hl 3 rfl) ?_
    refine lv_aload_n hx hb dL_law_19 rfl (lv_at hl 0 rfl) ?_
    refine va_slen hx hb hX hbl hbA hS dL_law_20 ?_
    refine lv_bipush (v := 6) hx hb dL_law_21 (by decide) ?_
    refine lv_isub hx hb dL_law_23 ?_
    refine lv_icmp_gt (tgt := 1382) hx hb dL_law_24 (by decide) (fun _ => hend H locs ls hS) (fun q => absurd ((lw_cond hL h4).mpr (by omega)) q)
  | succ n ih =>
    intro i h4 h1 σC σM H locs ls hRl hW hS hl
    refine lv_iload_n hx hb dL_law_18 rfl (lv_at hl 3 rfl) ?_
    refine lv_aload_n hx hb dL_law_19 rfl (lv_at hl 0 rfl) ?_
    refine va_slen hx hb hX hbl hbA hS dL_law_20 ?_
    refine lv_bipush (v := 6) hx hb dL_law_21 (by decide) ?_
    refine lv_isub hx hb dL_law_23 ?_
    refine lv_icmp_gt (tgt := 1382) hx hb dL_law_24 (by decide) (fun _ => hend H locs ls hS) (fun q => ?_)
    have hi : i + 6 ≤ L := by
      have h2 : ¬ (L : Int) - 6 < i := fun z => q ((lw_cond hL h4).mpr z)
      omega
    have next : ∀ (H1 : Heap) (locs1 : List Loc) (τC τM : pm_M), Rl τC τM → lw_Wd k adC adM (fun q => s.heap.size ≤ q) τC τM H1 → va_S (fun q => s.heap.size ≤ q) s.heap H1 locs1 → W p l e room_1 s m #[Value.ref b] below meth c H1 locs1 600000 7302249 (lw_Z below #[Value.ref b] s) (F0 m 1376 ls []) := by
      intro H1 locs1 τC τM h5 h6 h7
      refine lv_iinc (v := nI (i + 6)) (lv' := [(3, .int (nI (i + 6))), (0, .ref b), (1, .ref (adC 0)), (2, .ref (adM 0))]) hx hb dL_law_1376 hl (k := 3) rfl (nI_add i 6) (by decide) rfl (fun ls hl => ?_)
      refine lv_goto (tgt := 18) hx hb dL_law_1379 (by decide) ?_
      exact ih (i + 6) (by omega) (by omega) τC τM H1 locs1 ls h5 h6 h7 (lv_sub hl [1, 2, 3, 0] rfl)
    refine lv_aload_n hx hb dL_law_27 rfl (lv_at hl 0 rfl) ?_
    refine lv_iload_n hx hb dL_law_28 rfl (lv_at hl 3 rfl) ?_
    refine va_sld hx hb hX hbl hbA hS (vp_in_nI (by omega) (by omega)) dL_law_29 ?_
    refine lv_bipush (v := 63) hx hb dL_law_30 (by decide) ?_
    refine lv_iand hx hb dL_law_32 ?_
    obtain ⟨j, hj, ej⟩ := pk_andE (xs (nI i).toNatClampNeg) (m := 63) 6 (by decide)
    rw [ej]
    have ejt : (nI j).toInt = (j : Int) := nI_toInt (by omega)
    by_cases c0 : j = 0
    · subst c0
      refine lv_tableIn (tgt := 192) (off := 159) hx hb dL_law_33 (by decide) (by decide) (by decide) (by decide) ?_
      exact lc_day hst.1 C0 hK hSf hL hi hRl hW hS hl next
    by_cases c1 : j = 1
    · subst c1
      refine lv_tableIn (tgt := 235) (off := 202) hx hb dL_law_33 (by decide) (by decide) (by decide) (by decide) ?_
      exact lc_dayOf hst.2.1 C0 hK hSf hL hi hRl hW hS hl next
    by_cases c2 : j = 2
    · subst c2
      refine lv_tableIn (tgt := 268) (off := 235) hx hb dL_law_33 (by decide) (by decide) (by decide) (by decide) ?_
      exact lc_kind hst.2.2.1 C0 hK hSf hL hi hRl hW hS hl next
    by_cases c3 : j = 3
    · subst c3
      refine lv_tableIn (tgt := 321) (off := 288) hx hb dL_law_33 (by decide) (by decide) (by decide) (by decide) ?_
      exact lc_rags hst.2.2.2.1 C0 hK hSf hL hi hRl hW hS hl next
    by_cases c4 : j = 4
    · subst c4
      refine lv_tableIn (tgt := 354) (off := 321) hx hb dL_law_33 (by decide) (by decide) (by decide) (by decide) ?_
      exact lc_heap hst.2.2.2.2.1 C0 hK hSf hL hi hRl hW hS hl next
    by_cases c5 : j = 5
    · subst c5
      refine lv_tableIn (tgt := 387) (off := 354) hx hb dL_law_33 (by decide) (by decide) (by decide) (by decide) ?_
      exact lc_load hst.2.2.2.2.2.1 C0 hK hSf hL hi hRl hW hS hl next
    by_cases c6 : j = 6
    · subst c6
      refine lv_tableIn (tgt := 430) (off := 397) hx hb dL_law_33 (by decide) (by decide) (by decide) (by decide) ?_
      exact lc_pair hst.2.2.2.2.2.2.1 C0 hK hSf hL hi hRl hW hS hl next
    by_cases c7 : j = 7
    · subst c7
      refine lv_tableIn (tgt := 453) (off := 420) hx hb dL_law_33 (by decide) (by decide) (by decide) (by decide) ?_
      exact lc_wire hst.2.2.2.2.2.2.2.1 C0 hK hSf hL hi hRl hW hS hl next
    by_cases c8 : j = 8
    · subst c8
      refine lv_tableIn (tgt := 496) (off := 463) hx hb dL_law_33 (by decide) (by decide) (by decide) (by decide) ?_
      exact lc_mouldOf hst.2.2.2.2.2.2.2.2.1 C0 hK hSf hL hi hRl hW hS hl next
    by_cases c9 : j = 9
    · subst c9
      refine lv_tableIn (tgt := 529) (off := 496) hx hb dL_law_33 (by decide) (by decide) (by decide) (by decide) ?_
      exact lc_vat hst.2.2.2.2.2.2.2.2.2.1 C0 hK hSf hL hi hRl hW hS hl next
    by_cases c10 : j = 10
    · subst c10
      refine lv_tableIn (tgt := 562) (off := 529) hx hb dL_law_33 (by decide) (by decide) (by decide) (by decide) ?_
      exact lc_furnish hst.2.2.2.2.2.2.2.2.2.2.1 C0 hK hSf hL hi hRl hW hS hl next
    by_cases c11 : j = 11
    · subst c11
      refine lv_tableIn (tgt := 595) (off := 562) hx hb dL_law_33 (by decide) (by decide) (by decide) (by decide) ?_
      exact lc_loft hst.2.2.2.2.2.2.2.2.2.2.2.1 C0 hK hSf hL hi hRl hW hS hl next
    by_cases c12 : j = 12
    · subst c12
      refine lv_tableIn (tgt := 618) (off := 585) hx hb dL_law_33 (by decide) (by decide) (by decide) (by decide) ?_
      exact lc_hides hst.2.2.2.2.2.2.2.2.2.2.2.2.1 C0 hK hSf hL hi hRl hW hS hl next
    by_cases c13 : j = 13
    · subst c13
      refine lv_tableIn (tgt := 641) (off := 608) hx hb dL_law_33 (by decide) (by decide) (by decide) (by decide) ?_
      exact lc_size hst.2.2.2.2.2.2.2.2.2.2.2.2.2.1 C0 hK hSf hL hi hRl hW hS hl next
    by_cases c14 : j = 14
    · subst c14
      refine lv_tableIn (tgt := 664) (off := 631) hx hb dL_law_33 (by decide) (by decide) (by decide) (by decide) ?_
      exact lc_sizeAll hst.2.2.2.2.2.2.2.2.2.2.2.2.2.2.1 C0 hK hSf hL hi hRl hW hS hl next
    by_cases c15 : j = 15
    · subst c15
      refine lv_tableIn (tgt := 677) (off := 644) hx hb dL_law_33 (by decide) (by decide) (by decide) (by decide) ?_
      exact lc_duty hst.2.2.2.2.2.2.2.2.2.2.2.2.2.2.2.1 C0 hK hSf hL hi hRl hW hS hl next
    by_cases c16 : j = 16
    · subst c16
      refine lv_tableIn (tgt := 710) (off := 677) hx hb dL_law_33 (by decide) (by decide) (by decide) (by decide) ?_
      exact lc_order hst.2.2.2.2.2.2.2.2.2.2.2.2.2.2.2.2.1 C0 hK hSf hL hi hRl hW hS hl next
    by_cases c17 : j = 17
    · subst c17
      refine lv_tableIn (tgt := 773) (off := 740) hx hb dL_law_33 (by decide) (by decide) (by decide) (by decide) ?_
      exact lc_fill hst.2.2.2.2.2.2.2.2.2.2.2.2.2.2.2.2.2.1 C0 hK hSf hL hi hRl hW hS hl next
    by_cases c18 : j = 18
    · subst c18
      refine lv_tableIn (tgt := 796) (off := 763) hx hb dL_law_33 (by decide) (by decide) (by decide) (by decide) ?_
      exact lc_best hst.2.2.2.2.2.2.2.2.2.2.2.2.2.2.2.2.2.2.1 C0 hK hSf hL hi hRl hW hS hl next
    by_cases c19 : j = 19
    · subst c19
      refine lv_tableIn (tgt := 819) (off := 786) hx hb dL_law_33 (by decide) (by decide) (by decide) (by decide) ?_
      exact lc_bestWorth hst.2.2.2.2.2.2.2.2.2.2.2.2.2.2.2.2.2.2.2.1 C0 hK hSf hL hi hRl hW hS hl next
    by_cases c20 : j = 20
    · subst c20
      refine lv_tableIn (tgt := 842) (off := 809) hx hb dL_law_33 (by decide) (by decide) (by decide) (by decide) ?_
      exact lc_hours hst.2.2.2.2.2.2.2.2.2.2.2.2.2.2.2.2.2.2.2.2.1 C0 hK hSf hL hi hRl hW hS hl next
    by_cases c21 : j = 21
    · subst c21
      refine lv_tableIn (tgt := 865) (off := 832) hx hb dL_law_33 (by decide) (by decide) (by decide) (by decide) ?_
      exact lc_foretell hst.2.2.2.2.2.2.2.2.2.2.2.2.2.2.2.2.2.2.2.2.2.1 C0 hK hSf hL hi hRl hW hS hl next
    by_cases c22 : j = 22
    · subst c22
      refine lv_tableIn (tgt := 898) (off := 865) hx hb dL_law_33 (by decide) (by decide) (by decide) (by decide) ?_
      exact lc_when hst.2.2.2.2.2.2.2.2.2.2.2.2.2.2.2.2.2.2.2.2.2.2.1 C0 hK hSf hL hi hRl hW hS hl next
    by_cases c23 : j = 23
    · subst c23
      refine lv_tableIn (tgt := 921) (off := 888) hx hb dL_law_33 (by decide) (by decide) (by decide) (by decide) ?_
      exact lc_mark hst.2.2.2.2.2.2.2.2.2.2.2.2.2.2.2.2.2.2.2.2.2.2.2.1 C0 hK hSf hL hi hRl hW hS hl next
    by_cases c24 : j = 24
    · subst c24
      refine lv_tableIn (tgt := 964) (off := 931) hx hb dL_law_33 (by decide) (by decide) (by decide) (by decide) ?_
      exact lc_oldA hst.2.2.2.2.2.2.2.2.2.2.2.2.2.2.2.2.2.2.2.2.2.2.2.2.1 C0 hK hSf hL hi hRl hW hS hl next
    by_cases c25 : j = 25
    · subst c25
      refine lv_tableIn (tgt := 1007) (off := 974) hx hb dL_law_33 (by decide) (by decide) (by decide) (by decide) ?_
      exact lc_oldB hst.2.2.2.2.2.2.2.2.2.2.2.2.2.2.2.2.2.2.2.2.2.2.2.2.2.1 C0 hK hSf hL hi hRl hW hS hl next
    by_cases c26 : j = 26
    · subst c26
      refine lv_tableIn (tgt := 1050) (off := 1017) hx hb dL_law_33 (by decide) (by decide) (by decide) (by decide) ?_
      exact lc_lies hst.2.2.2.2.2.2.2.2.2.2.2.2.2.2.2.2.2.2.2.2.2.2.2.2.2.2.1 C0 hK hSf hL hi hRl hW hS hl next
    by_cases c27 : j = 27
    · subst c27
      refine lv_tableIn (tgt := 1073) (off := 1040) hx hb dL_law_33 (by decide) (by decide) (by decide) (by decide) ?_
      exact lc_nearest hst.2.2.2.2.2.2.2.2.2.2.2.2.2.2.2.2.2.2.2.2.2.2.2.2.2.2.2.1 C0 hK hSf hL hi hRl hW hS hl next
    by_cases c28 : j = 28
    · subst c28
      refine lv_tableIn (tgt := 1096) (off := 1063) hx hb dL_law_33 (by decide) (by decide) (by decide) (by decide) ?_
      exact lc_span hst.2.2.2.2.2.2.2.2.2.2.2.2.2.2.2.2.2.2.2.2.2.2.2.2.2.2.2.2.1 C0 hK hSf hL hi hRl hW hS hl next
    by_cases c29 : j = 29
    · subst c29
      refine lv_tableIn (tgt := 1155) (off := 1122) hx hb dL_law_33 (by decide) (by decide) (by decide) (by decide) ?_
      exact lc_heapOf hst.2.2.2.2.2.2.2.2.2.2.2.2.2.2.2.2.2.2.2.2.2.2.2.2.2.2.2.2.2.1 C0 hK hSf hL hi hRl hW hS hl next
    by_cases c30 : j = 30
    · subst c30
      refine lv_tableIn (tgt := 1188) (off := 1155) hx hb dL_law_33 (by decide) (by decide) (by decide) (by decide) ?_
      exact lc_beaterOf hst.2.2.2.2.2.2.2.2.2.2.2.2.2.2.2.2.2.2.2.2.2.2.2.2.2.2.2.2.2.2.1 C0 hK hSf hL hi hRl hW hS hl next
    by_cases c31 : j = 31
    · subst c31
      refine lv_tableIn (tgt := 1221) (off := 1188) hx hb dL_law_33 (by decide) (by decide) (by decide) (by decide) ?_
      exact lc_vatOf hst.2.2.2.2.2.2.2.2.2.2.2.2.2.2.2.2.2.2.2.2.2.2.2.2.2.2.2.2.2.2.2.1 C0 hK hSf hL hi hRl hW hS hl next
    by_cases c32 : j = 32
    · subst c32
      refine lv_tableIn (tgt := 1254) (off := 1221) hx hb dL_law_33 (by decide) (by decide) (by decide) (by decide) ?_
      exact lc_postOf hst.2.2.2.2.2.2.2.2.2.2.2.2.2.2.2.2.2.2.2.2.2.2.2.2.2.2.2.2.2.2.2.2.1 C0 hK hSf hL hi hRl hW hS hl next
    by_cases c33 : j = 33
    · subst c33
      refine lv_tableIn (tgt := 1287) (off := 1254) hx hb dL_law_33 (by decide) (by decide) (by decide) (by decide) ?_
      exact lc_orderOf hst.2.2.2.2.2.2.2.2.2.2.2.2.2.2.2.2.2.2.2.2.2.2.2.2.2.2.2.2.2.2.2.2.2.1 C0 hK hSf hL hi hRl hW hS hl next
    by_cases c34 : j = 34
    · subst c34
      refine lv_tableIn (tgt := 1320) (off := 1287) hx hb dL_law_33 (by decide) (by decide) (by decide) (by decide) ?_
      exact lc_sheets hst.2.2.2.2.2.2.2.2.2.2.2.2.2.2.2.2.2.2.2.2.2.2.2.2.2.2.2.2.2.2.2.2.2.2.1 C0 hK hSf hL hi hRl hW hS hl next
    by_cases c35 : j = 35
    · subst c35
      refine lv_tableIn (tgt := 1353) (off := 1320) hx hb dL_law_33 (by decide) (by decide) (by decide) (by decide) ?_
      exact lc_count hst.2.2.2.2.2.2.2.2.2.2.2.2.2.2.2.2.2.2.2.2.2.2.2.2.2.2.2.2.2.2.2.2.2.2.2 C0 hK hSf hL hi hRl hW hS hl next
    refine lv_tableOut (tgt := 1376) hx hb dL_law_33 (Or.inr (by rw [ejt]; omega)) (by decide) ?_
    exact next H locs σC σM hRl hW hS
