set_option maxHeartbeats 4000000 in
set_option maxRecDepth 100000 in
theorem lc_best {p : Program} {l : Launch} {e : Env} {s : State} {m : MethodId} {below : List Frame} {meth : Method} {c : Code} {H : Heap} {locs : List Loc} {b L i : Nat} {xs : Nat → Int32} {Q : State → Prop} {ls : Array Slot} {k : pm_K} {adC adM : Nat → Nat} {σC σM : pm_M} {Rl : pm_M → pm_M → Prop} (hsp1 : sp_best Rl) (C0 : lw_At p s m meth c b L xs) (hK : va_K k.1 vwCl (pm_tys k) s) (hSf : pm_Sf k (fun q => s.heap.size ≤ q) s s.heap) (hL : L ≤ 3072) (hi : i + 6 ≤ L) (hRl : Rl σC σM) (hW : lw_Wd k adC adM (fun q => s.heap.size ≤ q) σC σM H) (hS : va_S (fun q => s.heap.size ≤ q) s.heap H locs) (hl : lv_has ls 4 [(0, .ref b), (1, .ref (adC 0)), (2, .ref (adM 0)), (3, .int (nI i))])
    (next : ∀ (H1 : Heap) (locs1 : List Loc) (τC τM : pm_M), Rl τC τM → lw_Wd k adC adM (fun q => s.heap.size ≤ q) τC τM H1 → va_S (fun q => s.heap.size ≤ q) s.heap H1 locs1 → W p l e room_1 s m #[Value.ref b] below meth c H1 locs1 600000 7302249 Q (F0 m 1376 ls [])) : W p l e room_1 s m #[Value.ref b] below meth c H locs 600000 7302249 Q (F0 m 796 ls []) := by
  obtain ⟨hPC, hPM, hDC, hDM, hsp⟩ := hW
  obtain ⟨hx, hb, hr, hml, hown, hts, hX, hbl, hlocks, hgv⟩ := id C0
  obtain ⟨x1, hx1⟩ : ∃ y, y = xs (i + 1) := ⟨_, rfl⟩
  obtain ⟨ρC, ρM, hfC, hfM, hwr, hR2⟩ := hsp1 x1 σC σM hRl
  refine lv_aload_n hx hb dL_law_796 rfl (lv_at hl 1 rfl) ?_
  refine lw_ld (j := 1) C0 hL hi hS hl dL_law_797 dL_law_798 dL_law_799 dL_law_800 dL_law_801 (by decide) (by decide) ?_
  rw [← hx1]
  refine W.eq (g2 := F0 m 802 ls (([pv_i x1.toInt].map (pm_cv adC k.2.2.2)).reverse ++ .ref (adC 0) :: [])) (by simp only [List.map_cons, List.map_nil, List.reverse_cons, List.reverse_nil, List.nil_append, List.cons_append, pm_cv, Int32.ofInt_toInt] <;> rfl) ?_
  refine lw_callV (lay := LAYC) (σ2 := ρC.2) (ci := 11) (q := (RX11, TX11, 11)) C0 hK hSf dL_law_802 mk_L_91 lc_0 rfl rfl rfl (Nat.le_of_ble_eq_true rfl) (by decide) (by decide) (tmX11_best hfC) hPC hDC hS hl.1 (fun H1 locs1 hP1 hD1 hk1 hS1 => ?_)
  have hPM := lw_keep hsp hPM hk1
  clear hS hPC
  have hPC := hP1
  have hS := hS1
  have hDC := hD1
  clear hP1 hS1 hk1 hD1
  generalize H1 = H at hPC hPM hS ⊢
  generalize locs1 = locs at hS ⊢
  refine lv_aload_n hx hb dL_law_805 rfl (lv_at hl 2 rfl) ?_
  refine lw_ld (j := 1) C0 hL hi hS hl dL_law_806 dL_law_807 dL_law_808 dL_law_809 dL_law_810 (by decide) (by decide) ?_
  rw [← hx1]
  refine W.eq (g2 := F0 m 811 ls (([pv_i x1.toInt].map (pm_cv adM k.2.2.2)).reverse ++ .ref (adM 0) :: [.int (Int32.ofInt ρC.1)])) (by simp only [List.map_cons, List.map_nil, List.reverse_cons, List.reverse_nil, List.nil_append, List.cons_append, pm_cv, Int32.ofInt_toInt] <;> rfl) ?_
  refine lw_callV (lay := LAYM) (σ2 := ρM.2) (ci := 12) (q := (RX12, TX12, 36)) C0 hK hSf dL_law_811 mk_L_94 lm_0 rfl rfl rfl (Nat.le_of_ble_eq_true rfl) (by decide) (by decide) (tmX12_best hfM) hPM hDM hS hl.1 (fun H1 locs1 hP1 hD1 hk1 hS1 => ?_)
  have hPC := lw_keep (fun i j hi hj => (hsp j i hj hi).symm) hPC hk1
  clear hS hPM
  have hPM := hP1
  have hS := hS1
  have hDM := hD1
  clear hP1 hS1 hk1 hD1
  generalize H1 = H at hPC hPM hS ⊢
  generalize locs1 = locs at hS ⊢
  refine lv_icmp_eq (tgt := 1376) (x := Int32.ofInt ρC.1) (y := Int32.ofInt ρM.1) hx hb dL_law_814 (by decide) (fun _ => ?_) (fun q => absurd ((pm_eq _ _).mpr hwr) q)
  exact next _ _ ρC.2 ρM.2 hR2 ⟨hPC, hPM, hDC, hDM, hsp⟩ hS
set_option maxHeartbeats 4000000 in
set_option maxRecDepth 100000 in
theorem lc_bestWorth {p : Program} {l : Launch} {e : Env} {s : State} {m : MethodId} {below : List Frame} {meth : Method} {c : Code} {H : Heap} {locs : List Loc} {b L i : Nat} {xs : Nat → Int32} {Q : State → Prop} {ls : Array Slot} {k : pm_K} {adC adM : Nat → Nat} {σC σM : pm_M} {Rl : pm_M → pm_M → Prop} (hsp1 : sp_bestWorth Rl) (C0 : lw_At p s m meth c b L xs) (hK : va_K k.1 vwCl (pm_tys k) s) (hSf : pm_Sf k (fun q => s.heap.size ≤ q) s s.heap) (hL : L ≤ 3072) (hi : i + 6 ≤ L) (hRl : Rl σC σM) (hW : lw_Wd k adC adM (fun q => s.heap.size ≤ q) σC σM H) (hS : va_S (fun q => s.heap.size ≤ q) s.heap H locs) (hl : lv_has ls 4 [(0, .ref b), (1, .ref (adC 0)), (2, .ref (adM 0)), (3, .int (nI i))])
    (next : ∀ (H1 : Heap) (locs1 : List Loc) (τC τM : pm_M), Rl τC τM → lw_Wd k adC adM (fun q => s.heap.size ≤ q) τC τM H1 → va_S (fun q => s.heap.size ≤ q) s.heap H1 locs1 → W p l e room_1 s m #[Value.ref b] below meth c H1 locs1 600000 7302249 Q (F0 m 1376 ls [])) : W p l e room_1 s m #[Value.ref b] below meth c H locs 600000 7302249 Q (F0 m 819 ls []) := by
  obtain ⟨hPC, hPM, hDC, hDM, hsp⟩ := hW
  obtain ⟨hx, hb, hr, hml, hown, hts, hX, hbl, hlocks, hgv⟩ := id C0
  obtain ⟨x1, hx1⟩ : ∃ y, y = xs (i + 1) := ⟨_, rfl⟩
  obtain ⟨ρC, ρM, hfC, hfM, hwr, hR2⟩ := hsp1 x1 σC σM hRl
  refine lv_aload_n hx hb dL_law_819 rfl (lv_at hl 1 rfl) ?_
  refine lw_ld (j := 1) C0 hL hi hS hl dL_law_820 dL_law_821 dL_law_822 dL_law_823 dL_law_824 (by decide) (by decide) ?_
  rw [← hx1]
  refine W.eq (g2 := F0 m 825 ls (([pv_i x1.toInt].map (pm_cv adC k.2.2.2)).reverse ++ .ref (adC 0) :: [])) (by simp only [List.map_cons, List.map_nil, List.reverse_cons, List.reverse_nil, List.nil_append, List.cons_append, pm_cv, Int32.ofInt_toInt] <;> rfl) ?_
  refine lw_callV (lay := LAYC) (σ2 := ρC.2) (ci := 11) (q := (RX11, TX11, 11)) C0 hK hSf dL_law_825 mk_L_95 lc_0 rfl rfl rfl (Nat.le_of_ble_eq_true rfl) (by decide) (by decide) (tmX11_bestWorth hfC) hPC hDC hS hl.1 (fun H1 locs1 hP1 hD1 hk1 hS1 => ?_)
  have hPM := lw_keep hsp hPM hk1
  clear hS hPC
  have hPC := hP1
  have hS := hS1
  have hDC := hD1
  clear hP1 hS1 hk1 hD1
  generalize H1 = H at hPC hPM hS ⊢
  generalize locs1 = locs at hS ⊢
  refine lv_aload_n hx hb dL_law_828 rfl (lv_at hl 2 rfl) ?_
  refine lw_ld (j := 1) C0 hL hi hS hl dL_law_829 dL_law_830 dL_law_831 dL_law_832 dL_law_833 (by decide) (by decide) ?_
  rw [← hx1]
  refine W.eq (g2 := F0 m 834 ls (([pv_i x1.toInt].map (pm_cv adM k.2.2.2)).reverse ++ .ref (adM 0) :: [.int (Int32.ofInt ρC.1)])) (by simp only [List.map_cons, List.map_nil, List.reverse_cons, List.reverse_nil, List.nil_append, List.cons_append, pm_cv, Int32.ofInt_toInt] <;> rfl) ?_
  refine lw_callV (lay := LAYM) (σ2 := ρM.2) (ci := 12) (q := (RX12, TX12, 36)) C0 hK hSf dL_law_834 mk_L_98 lm_0 rfl rfl rfl (Nat.le_of_ble_eq_true rfl) (by decide) (by decide) (tmX12_bestWorth hfM) hPM hDM hS hl.1 (fun H1 locs1 hP1 hD1 hk1 hS1 => ?_)
  have hPC := lw_keep (fun i j hi hj => (hsp j i hj hi).symm) hPC hk1
  clear hS hPM
  have hPM := hP1
  have hS := hS1
  have hDM := hD1
  clear hP1 hS1 hk1 hD1
  generalize H1 = H at hPC hPM hS ⊢
  generalize locs1 = locs at hS ⊢
  refine lv_icmp_eq (tgt := 1376) (x := Int32.ofInt ρC.1) (y := Int32.ofInt ρM.1) hx hb dL_law_837 (by decide) (fun _ => ?_) (fun q => absurd ((pm_eq _ _).mpr hwr) q)
  exact next _ _ ρC.2 ρM.2 hR2 ⟨hPC, hPM, hDC, hDM, hsp⟩ hS
set_option maxHeartbeats 4000000 in
set_option maxRecDepth 100000 in
theorem lc_hours {p : Program} {l : Launch} {e : Env} {s : State} {m : MethodId} {below : List Frame} {meth : Method} {c : Code} {H : Heap} {locs : List Loc} {b L i : Nat} {xs : Nat → Int32} {Q : State → Prop} {ls : Array Slot} {k : pm_K} {adC adM : Nat → Nat} {σC σM : pm_M} {Rl : pm_M → pm_M → Prop} (hsp1 : sp_hours Rl) (C0 : lw_At p s m meth c b L xs) (hK : va_K k.1 vwCl (pm_tys k) s) (hSf : pm_Sf k (fun q => s.heap.size ≤ q) s s.heap) (hL : L ≤ 3072) (hi : i + 6 ≤ L) (hRl : Rl σC σM) (hW : lw_Wd k adC adM (fun q => s.heap.size ≤ q) σC σM H) (hS : va_S (fun q => s.heap.size ≤ q) s.heap H locs) (hl : lv_has ls 4 [(0, .ref b), (1, .ref (adC 0)), (2, .ref (adM 0)), (3, .int (nI i))])
    (next : ∀ (H1 : Heap) (locs1 : List Loc) (τC τM : pm_M), Rl τC τM → lw_Wd k adC adM (fun q => s.heap.size ≤ q) τC τM H1 → va_S (fun q => s.heap.size ≤ q) s.heap H1 locs1 → W p l e room_1 s m #[Value.ref b] below meth c H1 locs1 600000 7302249 Q (F0 m 1376 ls [])) : W p l e room_1 s m #[Value.ref b] below meth c H locs 600000 7302249 Q (F0 m 842 ls []) := by
  obtain ⟨hPC, hPM, hDC, hDM, hsp⟩ := hW
  obtain ⟨hx, hb, hr, hml, hown, hts, hX, hbl, hlocks, hgv⟩ := id C0
  obtain ⟨x1, hx1⟩ : ∃ y, y = xs (i + 1) := ⟨_, rfl⟩
  obtain ⟨ρC, ρM, hfC, hfM, hwr, hR2⟩ := hsp1 x1 σC σM hRl
  refine lv_aload_n hx hb dL_law_842 rfl (lv_at hl 1 rfl) ?_
  refine lw_ld (j := 1) C0 hL hi hS hl dL_law_843 dL_law_844 dL_law_845 dL_law_846 dL_law_847 (by decide) (by decide) ?_
  rw [← hx1]
  refine W.eq (g2 := F0 m 848 ls (([pv_i x1.toInt].map (pm_cv adC k.2.2.2)).reverse ++ .ref (adC 0) :: [])) (by simp only [List.map_cons, List.map_nil, List.reverse_cons, List.reverse_nil, List.nil_append, List.cons_append, pm_cv, Int32.ofInt_toInt] <;> rfl) ?_
  refine lw_callV (lay := LAYC) (σ2 := ρC.2) (ci := 11) (q := (RX11, TX11, 11)) C0 hK hSf dL_law_848 mk_L_99 lc_0 rfl rfl rfl (Nat.le_of_ble_eq_true rfl) (by decide) (by decide) (tmX11_hours hfC) hPC hDC hS hl.1 (fun H1 locs1 hP1 hD1 hk1 hS1 => ?_)
  have hPM := lw_keep hsp hPM hk1
  clear hS hPC
  have hPC := hP1
  have hS := hS1
  have hDC := hD1
  clear hP1 hS1 hk1 hD1
  generalize H1 = H at hPC hPM hS ⊢
  generalize locs1 = locs at hS ⊢
  refine lv_aload_n hx hb dL_law_851 rfl (lv_at hl 2 rfl) ?_
  refine lw_ld (j := 1) C0 hL hi hS hl dL_law_852 dL_law_853 dL_law_854 dL_law_855 dL_law_856 (by decide) (by decide) ?_
  rw [← hx1]
  refine W.eq (g2 := F0 m 857 ls (([pv_i x1.toInt].map (pm_cv adM k.2.2.2)).reverse ++ .ref (adM 0) :: [.int (Int32.ofInt ρC.1)])) (by simp only [List.map_cons, List.map_nil, List.reverse_cons, List.reverse_nil, List.nil_append, List.cons_append, pm_cv, Int32.ofInt_toInt] <;> rfl) ?_
  refine lw_callV (lay := LAYM) (σ2 := ρM.2) (ci := 12) (q := (RX12, TX12, 36)) C0 hK hSf dL_law_857 mk_L_102 lm_0 rfl rfl rfl (Nat.le_of_ble_eq_true rfl) (by decide) (by decide) (tmX12_hours hfM) hPM hDM hS hl.1 (fun H1 locs1 hP1 hD1 hk1 hS1 => ?_)
  have hPC := lw_keep (fun i j hi hj => (hsp j i hj hi).symm) hPC hk1
  clear hS hPM
  have hPM := hP1
  have hS := hS1
  have hDM := hD1
  clear hP1 hS1 hk1 hD1
  generalize H1 = H at hPC hPM hS ⊢
  generalize locs1 = locs at hS ⊢
  refine lv_icmp_eq (tgt := 1376) (x := Int32.ofInt ρC.1) (y := Int32.ofInt ρM.1) hx hb dL_law_860 (by decide) (fun _ => ?_) (fun q => absurd ((pm_eq _ _).mpr hwr) q)
  exact next _ _ ρC.2 ρM.2 hR2 ⟨hPC, hPM, hDC, hDM, hsp⟩ hS
set_option maxHeartbeats 4000000 in
set_option maxRecDepth 100000 in
theorem lc_foretell {p : Program} {l : Launch} {e : Env} {s : State} {m : MethodId} {below : List Frame} {meth : Method} {c : Code} {H : Heap} {locs : List Loc} {b L i : Nat} {xs : Nat → Int32} {Q : State → Prop} {ls : Array Slot} {k : pm_K} {adC adM : Nat → Nat} {σC σM : pm_M} {Rl : pm_M → pm_M → Prop} (hsp1 : sp_foretell Rl) (C0 : lw_At p s m meth c b L xs) (hK : va_K k.1 vwCl (pm_tys k) s) (hSf : pm_Sf k (fun q => s.heap.size ≤ q) s s.heap) (hL : L ≤ 3072) (hi : i + 6 ≤ L) (hRl : Rl σC σM) (hW : lw_Wd k adC adM (fun q => s.heap.size ≤ q) σC σM H) (hS : va_S (fun q => s.heap.size ≤ q) s.heap H locs) (hl : lv_has ls 4 [(0, .ref b), (1, .ref (adC 0)), (2, .ref (adM 0)), (3, .int (nI i))])
    (next : ∀ (H1 : Heap) (locs1 : List Loc) (τC τM : pm_M), Rl τC τM → lw_Wd k adC adM (fun q => s.heap.size ≤ q) τC τM H1 → va_S (fun q => s.heap.size ≤ q) s.heap H1 locs1 → W p l e room_1 s m #[Value.ref b] below meth c H1 locs1 600000 7302249 Q (F0 m 1376 ls [])) : W p l e room_1 s m #[Value.ref b] below meth c H locs 600000 7302249 Q (F0 m 865 ls []) := by
  obtain ⟨hPC, hPM, hDC, hDM, hsp⟩ := hW
  obtain ⟨hx, hb, hr, hml, hown, hts, hX, hbl, hlocks, hgv⟩ := id C0
  obtain ⟨x1, hx1⟩ : ∃ y, y = xs (i + 1) := ⟨_, rfl⟩
  obtain ⟨x2, hx2⟩ : ∃ y, y = xs (i + 2) := ⟨_, rfl⟩
  obtain ⟨ρC, ρM, hfC, hfM, hwr, hR2⟩ := hsp1 x1 x2 σC σM hRl
  refine lv_aload_n hx hb dL_law_865 rfl (lv_at hl 1 rfl) ?_
  refine lw_ld (j := 1) C0 hL hi hS hl dL_law_866 dL_law_867 dL_law_868 dL_law_869 dL_law_870 (by decide) (by decide) ?_
  rw [← hx1]
  refine lw_ld (j := 2) C0 hL hi hS hl dL_law_871 dL_law_872 dL_law_873 dL_law_874 dL_law_875 (by decide) (by decide) ?_
  rw [← hx2]
  refine W.eq (g2 := F0 m 876 ls (([pv_i x1.toInt, pv_i x2.toInt].map (pm_cv adC k.2.2.2)).reverse ++ .ref (adC 0) :: [])) (by simp only [List.map_cons, List.map_nil, List.reverse_cons, List.reverse_nil, List.nil_append, List.cons_append, pm_cv, Int32.ofInt_toInt] <;> rfl) ?_
  refine lw_callV (lay := LAYC) (σ2 := ρC.2) (ci := 11) (q := (RX11, TX11, 11)) C0 hK hSf dL_law_876 mk_L_103 lc_0 rfl rfl rfl (Nat.le_of_ble_eq_true rfl) (by decide) (by decide) (tmX11_foretell hfC) hPC hDC hS hl.1 (fun H1 locs1 hP1 hD1 hk1 hS1 => ?_)
  have hPM := lw_keep hsp hPM hk1
  clear hS hPC
  have hPC := hP1
  have hS := hS1
  have hDC := hD1
  clear hP1 hS1 hk1 hD1
  generalize H1 = H at hPC hPM hS ⊢
  generalize locs1 = locs at hS ⊢
  refine lv_aload_n hx hb dL_law_879 rfl (lv_at hl 2 rfl) ?_
  refine lw_ld (j := 1) C0 hL hi hS hl dL_law_880 dL_law_881 dL_law_882 dL_law_883 dL_law_884 (by decide) (by decide) ?_
  rw [← hx1]
  refine lw_ld (j := 2) C0 hL hi hS hl dL_law_885 dL_law_886 dL_law_887 dL_law_888 dL_law_889 (by decide) (by decide) ?_
  rw [← hx2]
  refine W.eq (g2 := F0 m 890 ls (([pv_i x1.toInt, pv_i x2.toInt].map (pm_cv adM k.2.2.2)).reverse ++ .ref (adM 0) :: [.int (Int32.ofInt ρC.1)])) (by simp only [List.map_cons, List.map_nil, List.reverse_cons, List.reverse_nil, List.nil_append, List.cons_append, pm_cv, Int32.ofInt_toInt] <;> rfl) ?_
  refine lw_callV (lay := LAYM) (σ2 := ρM.2) (ci := 12) (q := (RX12, TX12, 36)) C0 hK hSf dL_law_890 mk_L_106 lm_0 rfl rfl rfl (Nat.le_of_ble_eq_true rfl) (by decide) (by decide) (tmX12_foretell hfM) hPM hDM hS hl.1 (fun H1 locs1 hP1 hD1 hk1 hS1 => ?_)
  have hPC := lw_keep (fun i j hi hj => (hsp j i hj hi).symm) hPC hk1
  clear hS hPM
  have hPM := hP1
  have hS := hS1
  have hDM := hD1
  clear hP1 hS1 hk1 hD1
  generalize H1 = H at hPC hPM hS ⊢
  generalize locs1 = locs at hS ⊢
  refine lv_icmp_eq (tgt := 1376) (x := Int32.ofInt ρC.1) (y := Int32.ofInt ρM.1) hx hb dL_law_893 (by decide) (fun _ => ?_) (fun q => absurd ((pm_eq _ _).mpr hwr) q)
  exact next _ _ ρC.2 ρM.2 hR2 ⟨hPC, hPM, hDC, hDM, hsp⟩ hS
set_option maxHeartbeats 4000000 in
set_option maxRecDepth 100000 in
theorem lc_when {p : Program} {l : Launch} {e : Env} {s : State} {m : MethodId} {below : List Frame} {meth : Method} {c : Code} {H : Heap} {locs : List Loc} {b L i : Nat} {xs : Nat → Int32} {Q : State → Prop} {ls : Array Slot} {k : pm_K} {adC adM : Nat → Nat} {σC σM : pm_M} {Rl : pm_M → pm_M → Prop} (hsp1 : sp_when Rl) (C0 : lw_At p s m meth c b L xs) (hK : va_K k.1 vwCl (pm_tys k) s) (hSf : pm_Sf k (fun q => s.heap.size ≤ q) s s.heap) (hL : L ≤ 3072) (hi : i + 6 ≤ L) (hRl : Rl σC σM) (hW : lw_Wd k adC adM (fun q => s.heap.size ≤ q) σC σM H) (hS : va_S (fun q => s.heap.size ≤ q) s.heap H locs) (hl : lv_has ls 4 [(0, .ref b), (1, .ref (adC 0)), (2, .ref (adM 0)), (3, .int (nI i))])
    (next : ∀ (H1 : Heap) (locs1 : List Loc) (τC τM : pm_M), Rl τC τM → lw_Wd k adC adM (fun q => s.heap.size ≤ q) τC τM H1 → va_S (fun q => s.heap.size ≤ q) s.heap H1 locs1 → W p l e room_1 s m #[Value.ref b] below meth c H1 locs1 600000 7302249 Q (F0 m 1376 ls [])) : W p l e room_1 s m #[Value.ref b] below meth c H locs 600000 7302249 Q (F0 m 898 ls []) := by
  obtain ⟨hPC, hPM, hDC, hDM, hsp⟩ := hW
  obtain ⟨hx, hb, hr, hml, hown, hts, hX, hbl, hlocks, hgv⟩ := id C0
  obtain ⟨x1, hx1⟩ : ∃ y, y = xs (i + 1) := ⟨_, rfl⟩
  obtain ⟨ρC, ρM, hfC, hfM, hwr, hR2⟩ := hsp1 x1 σC σM hRl
  refine lv_aload_n hx hb dL_law_898 rfl (lv_at hl 1 rfl) ?_
  refine lw_ld (j := 1) C0 hL hi hS hl dL_law_899 dL_law_900 dL_law_901 dL_law_902 dL_law_903 (by decide) (by decide) ?_
  rw [← hx1]
  refine W.eq (g2 := F0 m 904 ls (([pv_i x1.toInt].map (pm_cv adC k.2.2.2)).reverse ++ .ref (adC 0) :: [])) (by simp only [List.map_cons, List.map_nil, List.reverse_cons, List.reverse_nil, List.nil_append, List.cons_append, pm_cv, Int32.ofInt_toInt] <;> rfl) ?_
  refine lw_callV (lay := LAYC) (σ2 := ρC.2) (ci := 11) (q := (RX11, TX11, 11)) C0 hK hSf dL_law_904 mk_L_107 lc_0 rfl rfl rfl (Nat.le_of_ble_eq_true rfl) (by decide) (by decide) (tmX11_when hfC) hPC hDC hS hl.1 (fun H1 locs1 hP1 hD1 hk1 hS1 => ?_)
  have hPM := lw_keep hsp hPM hk1
  clear hS hPC
  have hPC := hP1
  have hS := hS1
  have hDC := hD1
  clear hP1 hS1 hk1 hD1
  generalize H1 = H at hPC hPM hS ⊢
  generalize locs1 = locs at hS ⊢
  refine lv_aload_n hx hb dL_law_907 rfl (lv_at hl 2 rfl) ?_
  refine lw_ld (j := 1) C0 hL hi hS hl dL_law_908 dL_law_909 dL_law_910 dL_law_911 dL_law_912 (by decide) (by decide) ?_
  rw [← hx1]
  refine W.eq (g2 := F0 m 913 ls (([pv_i x1.toInt].map (pm_cv adM k.2.2.2)).reverse ++ .ref (adM 0) :: [.int (Int32.ofInt ρC.1)])) (by simp only [List.map_cons, List.map_nil, List.reverse_cons, List.reverse_nil, List.nil_append, List.cons_append, pm_cv, Int32.ofInt_toInt] <;> rfl) ?_
  refine lw_callV (lay := LAYM) (σ2 := ρM.2) (ci := 12) (q := (RX12, TX12, 36)) C0 hK hSf dL_law_913 mk_L_110 lm_0 rfl rfl rfl (Nat.le_of_ble_eq_true rfl) (by decide) (by decide) (tmX12_when hfM) hPM hDM hS hl.1 (fun H1 locs1 hP1 hD1 hk1 hS1 => ?_)
  have hPC := lw_keep (fun i j hi hj => (hsp j i hj hi).symm) hPC hk1
  clear hS hPM
  have hPM := hP1
  have hS := hS1
  have hDM := hD1
  clear hP1 hS1 hk1 hD1
  generalize H1 = H at hPC hPM hS ⊢
  generalize locs1 = locs at hS ⊢
  refine lv_icmp_eq (tgt := 1376) (x := Int32.ofInt ρC.1) (y := Int32.ofInt ρM.1) hx hb dL_law_916 (by decide) (fun _ => ?_) (fun q => absurd ((pm_eq _ _).mpr hwr) q)
  exact next _ _ ρC.2 ρM.2 hR2 ⟨hPC, hPM, hDC, hDM, hsp⟩ hS
set_option maxHeartbeats 4000000 in
set_option maxRecDepth 100000 in
theorem lc_mark {p : Program} {l : Launch} {e : Env} {s : State} {m : MethodId} {below : List Frame} {meth : Method} {c : Code} {H : Heap} {locs : List Loc} {b L i : Nat} {xs : Nat → Int32} {Q : State → Prop} {ls : Array Slot} {k : pm_K} {adC adM : Nat → Nat} {σC σM : pm_M} {Rl : pm_M → pm_M → Prop} (hsp1 : sp_mark Rl) (C0 : lw_At p s m meth c b L xs) (hK : va_K k.1 vwCl (pm_tys k) s) (hSf : pm_Sf k (fun q => s.heap.size ≤ q) s s.heap) (hL : L ≤ 3072) (hi : i + 6 ≤ L) (hRl : Rl σC σM) (hW : lw_Wd k adC adM (fun q => s.heap.size ≤ q) σC σM H) (hS : va_S (fun q => s.heap.size ≤ q) s.heap H locs) (hl : lv_has ls 4 [(0, .ref b), (1, .ref (adC 0)), (2, .ref (adM 0)), (3, .int (nI i))])
    (next : ∀ (H1 : Heap) (locs1 : List Loc) (τC τM : pm_M), Rl τC τM → lw_Wd k adC adM (fun q => s.heap.size ≤ q) τC τM H1 → va_S (fun q => s.heap.size ≤ q) s.heap H1 locs1 → W p l e room_1 s m #[Value.ref b] below meth c H1 locs1 600000 7302249 Q (F0 m 1376 ls [])) : W p l e room_1 s m #[Value.ref b] below meth c H locs 600000 7302249 Q (F0 m 921 ls []) := by
  obtain ⟨hPC, hPM, hDC, hDM, hsp⟩ := hW
  obtain ⟨hx, hb, hr, hml, hown, hts, hX, hbl, hlocks, hgv⟩ := id C0
  obtain ⟨x1, hx1⟩ : ∃ y, y = xs (i + 1) := ⟨_, rfl⟩
  obtain ⟨x2, hx2⟩ : ∃ y, y = xs (i + 2) := ⟨_, rfl⟩
  obtain ⟨x3, hx3⟩ : ∃ y, y = xs (i + 3) := ⟨_, rfl⟩
  obtain ⟨ρC, ρM, hfC, hfM, hwr, hR2⟩ := hsp1 x1 x2 x3 σC σM hRl
  refine lv_aload_n hx hb dL_law_921 rfl (lv_at hl 1 rfl) ?_
  refine lw_ld (j := 1) C0 hL hi hS hl dL_law_922 dL_law_923 dL_law_924 dL_law_925 dL_law_926 (by decide) (by decide) ?_
  rw [← hx1]
  refine lw_ld (j := 2) C0 hL hi hS hl dL_law_927 dL_law_928 dL_law_929 dL_law_930 dL_law_931 (by decide) (by decide) ?_
  rw [← hx2]
  refine lw_ld (j := 3) C0 hL hi hS hl dL_law_932 dL_law_933 dL_law_934 dL_law_935 dL_law_936 (by decide) (by decide) ?_
  rw [← hx3]
  refine W.eq (g2 := F0 m 937 ls (([pv_i x1.toInt, pv_i x2.toInt, pv_i x3.toInt].map (pm_cv adC k.2.2.2)).reverse ++ .ref (adC 0) :: [])) (by simp only [List.map_cons, List.map_nil, List.reverse_cons, List.reverse_nil, List.nil_append, List.cons_append, pm_cv, Int32.ofInt_toInt] <;> rfl) ?_
  refine lw_callV (lay := LAYC) (σ2 := ρC.2) (ci := 11) (q := (RX11, TX11, 11)) C0 hK hSf dL_law_937 mk_L_111 lc_0 rfl rfl rfl (Nat.le_of_ble_eq_true rfl) (by decide) (by decide) (tmX11_mark hfC) hPC hDC hS hl.1 (fun H1 locs1 hP1 hD1 hk1 hS1 => ?_)
  have hPM := lw_keep hsp hPM hk1
  clear hS hPC
  have hPC := hP1
  have hS := hS1
  have hDC := hD1
  clear hP1 hS1 hk1 hD1
  generalize H1 = H at hPC hPM hS ⊢
  generalize locs1 = locs at hS ⊢
  refine lv_aload_n hx hb dL_law_940 rfl (lv_at hl 2 rfl) ?_
  refine lw_ld (j := 1) C0 hL hi hS hl dL_law_941 dL_law_942 dL_law_943 dL_law_944 dL_law_945 (by decide) (by decide) ?_
  rw [← hx1]
  refine lw_ld (j := 2) C0 hL hi hS hl dL_law_946 dL_law_947 dL_law_948 dL_law_949 dL_law_950 (by decide) (by decide) ?_
  rw [← hx2]
  refine lw_ld (j := 3) C0 hL hi hS hl dL_law_951 dL_law_952 dL_law_953 dL_law_954 dL_law_955 (by decide) (by decide) ?_
  rw [← hx3]
  refine W.eq (g2 := F0 m 956 ls (([pv_i x1.toInt, pv_i x2.toInt, pv_i x3.toInt].map (pm_cv adM k.2.2.2)).reverse ++ .ref (adM 0) :: [.int (Int32.ofInt ρC.1)])) (by simp only [List.map_cons, List.map_nil, List.reverse_cons, List.reverse_nil, List.nil_append, List.cons_append, pm_cv, Int32.ofInt_toInt] <;> rfl) ?_
  refine lw_callV (lay := LAYM) (σ2 := ρM.2) (ci := 12) (q := (RX12, TX12, 36)) C0 hK hSf dL_law_956 mk_L_114 lm_0 rfl rfl rfl (Nat.le_of_ble_eq_true rfl) (by decide) (by decide) (tmX12_mark hfM) hPM hDM hS hl.1 (fun H1 locs1 hP1 hD1 hk1 hS1 => ?_)
  have hPC := lw_keep (fun i j hi hj => (hsp j i hj hi).symm) hPC hk1
  clear hS hPM
  have hPM := hP1
  have hS := hS1
  have hDM := hD1
  clear hP1 hS1 hk1 hD1
  generalize H1 = H at hPC hPM hS ⊢
  generalize locs1 = locs at hS ⊢
  refine lv_icmp_eq (tgt := 1376) (x := Int32.ofInt ρC.1) (y := Int32.ofInt ρM.1) hx hb dL_law_959 (by decide) (fun _ => ?_) (fun q => absurd ((pm_eq _ _).mpr hwr) q)
  exact next _ _ ρC.2 ρM.2 hR2 ⟨hPC, hPM, hDC, hDM, hsp⟩ hS
set_option maxHeartbeats 4000000 in
set_option maxRecDepth 100000 in
theorem lc_oldA {p : Program} {l : Launch} {e : Env} {s : State} {m : MethodId} {below : List Frame} {meth : Method} {c : Code} {H : Heap} {locs : List Loc} {b L i : Nat} {xs : Nat → Int32} {Q : State → Prop} {ls : Array Slot} {k : pm_K} {adC adM : Nat → Nat} {σC σM : pm_M} {Rl : pm_M → pm_M → Prop} (hsp1 : sp_oldA Rl) (C0 : lw_At p s m meth c b L xs) (hK : va_K k.1 vwCl (pm_tys k) s) (hSf : pm_Sf k (fun q => s.heap.size ≤ q) s s.heap) (hL : L ≤ 3072) (hi : i + 6 ≤ L) (hRl : Rl σC σM) (hW : lw_Wd k adC adM (fun q => s.heap.size ≤ q) σC σM H) (hS : va_S (fun q => s.heap.size ≤ q) s.heap H locs) (hl : lv_has ls 4 [(0, .ref b), (1, .ref (adC 0)), (2, .ref (adM 0)), (3, .int (nI i))])
    (next : ∀ (H1 : Heap) (locs1 : List Loc) (τC τM : pm_M), Rl τC τM → lw_Wd k adC adM (fun q => s.heap.size ≤ q) τC τM H1 → va_S (fun q => s.heap.size ≤ q) s.heap H1 locs1 → W p l e room_1 s m #[Value.ref b] below meth c H1 locs1 600000 7302249 Q (F0 m 1376 ls [])) : W p l e room_1 s m #[Value.ref b] below meth c H locs 600000 7302249 Q (F0 m 964 ls []) := by
  obtain ⟨hPC, hPM, hDC, hDM, hsp⟩ := hW
  obtain ⟨hx, hb, hr, hml, hown, hts, hX, hbl, hlocks, hgv⟩ := id C0
  obtain ⟨x1, hx1⟩ : ∃ y, y = xs (i + 1) := ⟨_, rfl⟩
  obtain ⟨x2, hx2⟩ : ∃ y, y = xs (i + 2) := ⟨_, rfl⟩
  obtain ⟨x3, hx3⟩ : ∃ y, y = xs (i + 3) := ⟨_, rfl⟩
  obtain ⟨ρC, ρM, hfC, hfM, hwr, hR2⟩ := hsp1 x1 x2 x3 σC σM hRl
  refine lv_aload_n hx hb dL_law_964 rfl (lv_at hl 1 rfl) ?_
  refine lw_ld (j := 1) C0 hL hi hS hl dL_law_965 dL_law_966 dL_law_967 dL_law_968 dL_law_969 (by decide) (by decide) ?_
  rw [← hx1]
  refine lw_ld (j := 2) C0 hL hi hS hl dL_law_970 dL_law_971 dL_law_972 dL_law_973 dL_law_974 (by decide) (by decide) ?_
  rw [← hx2]
  refine lw_ld (j := 3) C0 hL hi hS hl dL_law_975 dL_law_976 dL_law_977 dL_law_978 dL_law_979 (by decide) (by decide) ?_
  rw [← hx3]
  refine W.eq (g2 := F0 m 980 ls (([pv_i x1.toInt, pv_i x2.toInt, pv_i x3.toInt].map (pm_cv adC k.2.2.2)).reverse ++ .ref (adC 0) :: [])) (by simp only [List.map_cons, List.map_nil, List.reverse_cons, List.reverse_nil, List.nil_append, List.cons_append, pm_cv, Int32.ofInt_toInt] <;> rfl) ?_
  refine lw_callV (lay := LAYC) (σ2 := ρC.2) (ci := 11) (q := (RX11, TX11, 11)) C0 hK hSf dL_law_980 mk_L_115 lc_0 rfl rfl rfl (Nat.le_of_ble_eq_true rfl) (by decide) (by decide) (tmX11_oldA hfC) hPC hDC hS hl.1 (fun H1 locs1 hP1 hD1 hk1 hS1 => ?_)
  have hPM := lw_keep hsp hPM hk1
  clear hS hPC
  have hPC := hP1
  have hS := hS1
  have hDC := hD1
  clear hP1 hS1 hk1 hD1
  generalize H1 = H at hPC hPM hS ⊢
  generalize locs1 = locs at hS ⊢
  refine lv_aload_n hx hb dL_law_983 rfl (lv_at hl 2 rfl) ?_
  refine lw_ld (j := 1) C0 hL hi hS hl dL_law_984 dL_law_985 dL_law_986 dL_law_987 dL_law_988 (by decide) (by decide) ?_
  rw [← hx1]
  refine lw_ld (j := 2) C0 hL hi hS hl dL_law_989 dL_law_990 dL_law_991 dL_law_992 dL_law_993 (by decide) (by decide) ?_
  rw [← hx2]
  refine lw_ld (j := 3) C0 hL hi hS hl dL_law_994 dL_law_995 dL_law_996 dL_law_997 dL_law_998 (by decide) (by decide) ?_
  rw [← hx3]
  refine W.eq (g2 := F0 m 999 ls (([pv_i x1.toInt, pv_i x2.toInt, pv_i x3.toInt].map (pm_cv adM k.2.2.2)).reverse ++ .ref (adM 0) :: [.int (Int32.ofInt ρC.1)])) (by simp only [List.map_cons, List.map_nil, List.reverse_cons, List.reverse_nil, List.nil_append, List.cons_append, pm_cv, Int32.ofInt_toInt] <;> rfl) ?_
  refine lw_callV (lay := LAYM) (σ2 := ρM.2) (ci := 12) (q := (RX12, TX12, 36)) C0 hK hSf dL_law_999 mk_L_118 lm_0 rfl rfl rfl (Nat.le_of_ble_eq_true rfl) (by decide) (by decide) (tmX12_oldA hfM) hPM hDM hS hl.1 (fun H1 locs1 hP1 hD1 hk1 hS1 => ?_)
  have hPC := lw_keep (fun i j hi hj => (hsp j i hj hi).symm) hPC hk1
  clear hS hPM
  have hPM := hP1
  have hS := hS1
  have hDM := hD1
  clear hP1 hS1 hk1 hD1
  generalize H1 = H at hPC hPM hS ⊢
  generalize locs1 = locs at hS ⊢
  refine lv_icmp_eq (tgt := 1376) (x := Int32.ofInt ρC.1) (y := Int32.ofInt ρM.1) hx hb dL_law_1002 (by decide) (fun _ => ?_) (fun q => absurd ((pm_eq _ _).mpr hwr) q)
  exact next _ _ ρC.2 ρM.2 hR2 ⟨hPC, hPM, hDC, hDM, hsp⟩ hS
set_option maxHeartbeats 4000000 in
set_option maxRecDepth 100000 in
theorem lc_oldB {p : Program} {l : Launch} {e : Env} {s : State} {m : MethodId} {below : List Frame} {meth : Method} {c : Code} {H : Heap} {locs : List Loc} {b L i : Nat} {xs : Nat → Int32} {Q : State → Prop} {ls : Array Slot} {k : pm_K} {adC adM : Nat → Nat} {σC σM : pm_M} {Rl : pm_M → pm_M → Prop} (hsp1 : sp_oldB Rl) (C0 : lw_At p s m meth c b L xs) (hK : va_K k.1 vwCl (pm_tys k) s) (hSf : pm_Sf k (fun q => s.heap.size ≤ q) s s.heap) (hL : L ≤ 3072) (hi : i + 6 ≤ L) (hRl : Rl σC σM) (hW : lw_Wd k adC adM (fun q => s.heap.size ≤ q) σC σM H) (hS : va_S (fun q => s.heap.size ≤ q) s.heap H locs) (hl : lv_has ls 4 [(0, .ref b), (1, .ref (adC 0)), (2, .ref (adM 0)), (3, .int (nI i))])
    (next : ∀ (H1 : Heap) (locs1 : List Loc) (τC τM : pm_M), Rl τC τM → lw_Wd k adC adM (fun q => s.heap.size ≤ q) τC τM H1 → va_S (fun q => s.heap.size ≤ q) s.heap H1 locs1 → W p l e room_1 s m #[Value.ref b] below meth c H1 locs1 600000 7302249 Q (F0 m 1376 ls [])) : W p l e room_1 s m #[Value.ref b] below meth c H locs 600000 7302249 Q (F0 m 1007 ls []) := by
  obtain ⟨hPC, hPM, hDC, hDM, hsp⟩ := hW
  obtain ⟨hx, hb, hr, hml, hown, hts, hX, hbl, hlocks, hgv⟩ := id C0
  obtain ⟨x1, hx1⟩ : ∃ y, y = xs (i + 1) := ⟨_, rfl⟩
  obtain ⟨x2, hx2⟩ : ∃ y, y = xs (i + 2) := ⟨_, rfl⟩
  obtain ⟨x3, hx3⟩ : ∃ y, y = xs (i + 3) := ⟨_, rfl⟩
  obtain ⟨ρC, ρM, hfC, hfM, hwr, hR2⟩ := hsp1 x1 x2 x3 σC σM hRl
  refine lv_aload_n hx hb dL_law_1007 rfl (lv_at hl 1 rfl) ?_
  refine lw_ld (j := 1) C0 hL hi hS hl dL_law_1008 dL_law_1009 dL_law_1010 dL_law_1011 dL_law_1012 (by decide) (by decide) ?_
  rw [← hx1]
  refine lw_ld (j := 2) C0 hL hi hS hl dL_law_1013 dL_law_1014 dL_law_1015 dL_law_1016 dL_law_1017 (by decide) (by decide) ?_
  rw [← hx2]
  refine lw_ld (j := 3) C0 hL hi hS hl dL_law_1018 dL_law_1019 dL_law_1020 dL_law_1021 dL_law_1022 (by decide) (by decide) ?_
  rw [← hx3]
  refine W.eq (g2 := F0 m 1023 ls (([pv_i x1.toInt, pv_i x2.toInt, pv_i x3.toInt].map (pm_cv adC k.2.2.2)).reverse ++ .ref (adC 0) :: [])) (by simp only [List.map_cons, List.map_nil, List.reverse_cons, List.reverse_nil, List.nil_append, List.cons_append, pm_cv, Int32.ofInt_toInt] <;> rfl) ?_
  refine lw_callV (lay := LAYC) (σ2 := ρC.2) (ci := 11) (q := (RX11, TX11, 11)) C0 hK hSf dL_law_1023 mk_L_119 lc_0 rfl rfl rfl (Nat.le_of_ble_eq_true rfl) (by decide) (by decide) (tmX11_oldB hfC) hPC hDC hS hl.1 (fun H1 locs1 hP1 hD1 hk1 hS1 => ?_)
  have hPM := lw_keep hsp hPM hk1
  clear hS hPC
  have hPC := hP1
  have hS := hS1
  have hDC := hD1
  clear hP1 hS1 hk1 hD1
  generalize H1 = H at hPC hPM hS ⊢
  generalize locs1 = locs at hS ⊢
  refine lv_aload_n hx hb dL_law_1026 rfl (lv_at hl 2 rfl) ?_
  refine lw_ld (j := 1) C0 hL hi hS hl dL_law_1027 dL_law_1028 dL_law_1029 dL_law_1030 dL_law_1031 (by decide) (by decide) ?_
  rw [← hx1]
  refine lw_ld (j := 2) C0 hL hi hS hl dL_law_1032 dL_law_1033 dL_law_1034 dL_law_1035 dL_law_1036 (by decide) (by decide) ?_
  rw [← hx2]
  refine lw_ld (j := 3) C0 hL hi hS hl dL_law_1037 dL_law_1038 dL_law_1039 dL_law_1040 dL_law_1041 (by decide) (by decide) ?_
  rw [← hx3]
  refine W.eq (g2 := F0 m 1042 ls (([pv_i x1.toInt, pv_i x2.toInt, pv_i x3.toInt].map (pm_cv adM k.2.2.2)).reverse ++ .ref (adM 0) :: [.int (Int32.ofInt ρC.1)])) (by simp only [List.map_cons, List.map_nil, List.reverse_cons, List.reverse_nil, List.nil_append, List.cons_append, pm_cv, Int32.ofInt_toInt] <;> rfl) ?_
  refine lw_callV (lay := LAYM) (σ2 := ρM.2) (ci := 12) (q := (RX12, TX12, 36)) C0 hK hSf dL_law_1042 mk_L_122 lm_0 rfl rfl rfl (Nat.le_of_ble_eq_true rfl) (by decide) (by decide) (tmX12_oldB hfM) hPM hDM hS hl.1 (fun H1 locs1 hP1 hD1 hk1 hS1 => ?_)
  have hPC := lw_keep (fun i j hi hj => (hsp j i hj hi).symm) hPC hk1
  clear hS hPM
  have hPM := hP1
  have hS := hS1
  have hDM := hD1
  clear hP1 hS1 hk1 hD1
  generalize H1 = H at hPC hPM hS ⊢
  generalize locs1 = locs at hS ⊢
  refine lv_icmp_eq (tgt := 1376) (x := Int32.ofInt ρC.1) (y := Int32.ofInt ρM.1) hx hb dL_law_1045 (by decide) (fun _ => ?_) (fun q => absurd ((pm_eq _ _).mpr hwr) q)
  exact next _ _ ρC.2 ρM.2 hR2 ⟨hPC, hPM, hDC, hDM, hsp⟩ hS
set_option maxHeartbeats 4000000 in
set_option maxRecDepth 100000 in
theorem lc_lies {p : Program} {l : Launch} {e : Env} {s : State} {m : MethodId} {below : List Frame} {meth : Method} {c : Code} {H : Heap} {locs : List Loc} {b L i : Nat} {xs : Nat → Int32} {Q : State → Prop} {ls : Array Slot} {k : pm_K} {adC adM : Nat → Nat} {σC σM : pm_M} {Rl : pm_M → pm_M → Prop} (hsp1 : sp_lies Rl) (C0 : lw_At p s m meth c b L xs) (hK : va_K k.1 vwCl (pm_tys k) s) (hSf : pm_Sf k (fun q => s.heap.size ≤ q) s s.heap) (hL : L ≤ 3072) (hi : i + 6 ≤ L) (hRl : Rl σC σM) (hW : lw_Wd k adC adM (fun q => s.heap.size ≤ q) σC σM H) (hS : va_S (fun q => s.heap.size ≤ q) s.heap H locs) (hl : lv_has ls 4 [(0, .ref b), (1, .ref (adC 0)), (2, .ref (adM 0)), (3, .int (nI i))])
    (next : ∀ (H1 : Heap) (locs1 : List Loc) (τC τM : pm_M), Rl τC τM → lw_Wd k adC adM (fun q => s.heap.size ≤ q) τC τM H1 → va_S (fun q => s.heap.size ≤ q) s.heap H1 locs1 → W p l e room_1 s m #[Value.ref b] below meth c H1 locs1 600000 7302249 Q (F0 m 1376 ls [])) : W p l e room_1 s m #[Value.ref b] below meth c H locs 600000 7302249 Q (F0 m 1050 ls []) := by
  obtain ⟨hPC, hPM, hDC, hDM, hsp⟩ := hW
  obtain ⟨hx, hb, hr, hml, hown, hts, hX, hbl, hlocks, hgv⟩ := id C0
  obtain ⟨x1, hx1⟩ : ∃ y, y = xs (i + 1) := ⟨_, rfl⟩
  obtain ⟨ρC, ρM, hfC, hfM, hwr, hR2⟩ := hsp1 x1 σC σM hRl
  refine lv_aload_n hx hb dL_law_1050 rfl (lv_at hl 1 rfl) ?_
  refine lw_ld (j := 1) C0 hL hi hS hl dL_law_1051 dL_law_1052 dL_law_1053 dL_law_1054 dL_law_1055 (by decide) (by decide) ?_
  rw [← hx1]
  refine W.eq (g2 := F0 m 1056 ls (([pv_i x1.toInt].map (pm_cv adC k.2.2.2)).reverse ++ .ref (adC 0) :: [])) (by simp only [List.map_cons, List.map_nil, List.reverse_cons, List.reverse_nil, List.nil_append, List.cons_append, pm_cv, Int32.ofInt_toInt] <;> rfl) ?_
  refine lw_callV (lay := LAYC) (σ2 := ρC.2) (ci := 11) (q := (RX11, TX11, 11)) C0 hK hSf dL_law_1056 mk_L_123 lc_0 rfl rfl rfl (Nat.le_of_ble_eq_true rfl) (by decide) (by decide) (tmX11_lies hfC) hPC hDC hS hl.1 (fun H1 locs1 hP1 hD1 hk1 hS1 => ?_)
  have hPM := lw_keep hsp hPM hk1
  clear hS hPC
  have hPC := hP1
  have hS := hS1
  have hDC := hD1
  clear hP1 hS1 hk1 hD1
  generalize H1 = H at hPC hPM hS ⊢
  generalize locs1 = locs at hS ⊢
  refine lv_aload_n hx hb dL_law_1059 rfl (lv_at hl 2 rfl) ?_
  refine lw_ld (j := 1) C0 hL hi hS hl dL_law_1060 dL_law_1061 dL_law_1062 dL_law_1063 dL_law_1064 (by decide) (by decide) ?_
  rw [← hx1]
  refine W.eq (g2 := F0 m 1065 ls (([pv_i x1.toInt].map (pm_cv adM k.2.2.2)).reverse ++ .ref (adM 0) :: [.int (Int32.ofInt ρC.1)])) (by simp only [List.map_cons, List.map_nil, List.reverse_cons, List.reverse_nil, List.nil_append, List.cons_append, pm_cv, Int32.ofInt_toInt] <;> rfl) ?_
  refine lw_callV (lay := LAYM) (σ2 := ρM.2) (ci := 12) (q := (RX12, TX12, 36)) C0 hK hSf dL_law_1065 mk_L_126 lm_0 rfl rfl rfl (Nat.le_of_ble_eq_true rfl) (by decide) (by decide) (tmX12_lies hfM) hPM hDM hS hl.1 (fun H1 locs1 hP1 hD1 hk1 hS1 => ?_)
  have hPC := lw_keep (fun i j hi hj => (hsp j i hj hi).symm) hPC hk1
  clear hS hPM
  have hPM := hP1
  have hS := hS1
  have hDM := hD1
  clear hP1 hS1 hk1 hD1
  generalize H1 = H at hPC hPM hS ⊢
  generalize locs1 = locs at hS ⊢
  refine lv_icmp_eq (tgt := 1376) (x := Int32.ofInt ρC.1) (y := Int32.ofInt ρM.1) hx hb dL_law_1068 (by decide) (fun _ => ?_) (fun q => absurd ((pm_eq _ _).mpr hwr) q)
  exact next _ _ ρC.2 ρM.2 hR2 ⟨hPC, hPM, hDC, hDM, hsp⟩ hS
set_option maxHeartbeats 4000000 in
set_option maxRecDepth 100000 in
theorem lc_nearest {p : Program} {l : Launch} {e : Env} {s : State} {m : MethodId} {below : List Frame} {meth : Method} {c : Code} {H : Heap} {locs : List Loc} {b L i : Nat} {xs : Nat → Int32} {Q : State → Prop} {ls : Array Slot} {k : pm_K} {adC adM : Nat → Nat} {σC σM : pm_M} {Rl : pm_M → pm_M → Prop} (hsp1 : sp_nearest Rl) (C0 : lw_At p s m meth c b L xs) (hK : va_K k.1 vwCl (pm_tys k) s) (hSf : pm_Sf k (fun q => s.heap.size ≤ q) s s.heap) (hL : L ≤ 3072) (hi : i + 6 ≤ L) (hRl : Rl σC σM) (hW : lw_Wd k adC adM (fun q => s.heap.size ≤ q) σC σM H) (hS : va_S (fun q => s.heap.size ≤ q) s.heap H locs) (hl : lv_has ls 4 [(0, .ref b), (1, .ref (adC 0)), (2, .ref (adM 0)), (3, .int (nI i))])
    (next : ∀ (H1 : Heap) (locs1 : List Loc) (τC τM : pm_M), Rl τC τM → lw_Wd k adC adM (fun q => s.heap.size ≤ q) τC τM H1 → va_S (fun q => s.heap.size ≤ q) s.heap H1 locs1 → W p l e room_1 s m #[Value.ref b] below meth c H1 locs1 600000 7302249 Q (F0 m 1376 ls [])) : W p l e room_1 s m #[Value.ref b] below meth c H locs 600000 7302249 Q (F0 m 1073 ls []) := by
  obtain ⟨hPC, hPM, hDC, hDM, hsp⟩ := hW
  obtain ⟨hx, hb, hr, hml, hown, hts, hX, hbl, hlocks, hgv⟩ := id C0
  obtain ⟨x1, hx1⟩ : ∃ y, y = xs (i + 1) := ⟨_, rfl⟩
  obtain ⟨ρC, ρM, hfC, hfM, hwr, hR2⟩ := hsp1 x1 σC σM hRl
  refine lv_aload_n hx hb dL_law_1073 rfl (lv_at hl 1 rfl) ?_
  refine lw_ld (j := 1) C0 hL hi hS hl dL_law_1074 dL_law_1075 dL_law_1076 dL_law_1077 dL_law_1078 (by decide) (by decide) ?_
  rw [← hx1]
  refine W.eq (g2 := F0 m 1079 ls (([pv_i x1.toInt].map (pm_cv adC k.2.2.2)).reverse ++ .ref (adC 0) :: [])) (by simp only [List.map_cons, List.map_nil, List.reverse_cons, List.reverse_nil, List.nil_append, List.cons_append, pm_cv, Int32.ofInt_toInt] <;> rfl) ?_
  refine lw_callV (lay := LAYC) (σ2 := ρC.2) (ci := 11) (q := (RX11, TX11, 11)) C0 hK hSf dL_law_1079 mk_L_127 lc_0 rfl rfl rfl (Nat.le_of_ble_eq_true rfl) (by decide) (by decide) (tmX11_nearest hfC) hPC hDC hS hl.1 (fun H1 locs1 hP1 hD1 hk1 hS1 => ?_)
  have hPM := lw_keep hsp hPM hk1
  clear hS hPC
  have hPC := hP1
  have hS := hS1
  have hDC := hD1
  clear hP1 hS1 hk1 hD1
  generalize H1 = H at hPC hPM hS ⊢
  generalize locs1 = locs at hS ⊢
  refine lv_aload_n hx hb dL_law_1082 rfl (lv_at hl 2 rfl) ?_
  refine lw_ld (j := 1) C0 hL hi hS hl dL_law_1083 dL_law_1084 dL_law_1085 dL_law_1086 dL_law_1087 (by decide) (by decide) ?_
  rw [← hx1]
  refine W.eq (g2 := F0 m 1088 ls (([pv_i x1.toInt].map (pm_cv adM k.2.2.2)).reverse ++ .ref (adM 0) :: [.int (Int32.ofInt ρC.1)])) (by simp only [List.map_cons, List.map_nil, List.reverse_cons, List.reverse_nil, List.nil_append, List.cons_append, pm_cv, Int32.ofInt_toInt] <;> rfl) ?_
  refine lw_callV (lay := LAYM) (σ2 := ρM.2) (ci := 12) (q := (RX12, TX12, 36)) C0 hK hSf dL_law_1088 mk_L_130 lm_0 rfl rfl rfl (Nat.le_of_ble_eq_true rfl) (by decide) (by decide) (tmX12_nearest hfM) hPM hDM hS hl.1 (fun H1 locs1 hP1 hD1 hk1 hS1 => ?_)
  have hPC := lw_keep (fun i j hi hj => (hsp j i hj hi).symm) hPC hk1
  clear hS hPM
  have hPM := hP1
  have hS := hS1
  have hDM := hD1
  clear hP1 hS1 hk1 hD1
  generalize H1 = H at hPC hPM hS ⊢
  generalize locs1 = locs at hS ⊢
  refine lv_icmp_eq (tgt := 1376) (x := Int32.ofInt ρC.1) (y := Int32.ofInt ρM.1) hx hb dL_law_1091 (by decide) (fun _ => ?_) (fun q => absurd ((pm_eq _ _).mpr hwr) q)
  exact next _ _ ρC.2 ρM.2 hR2 ⟨hPC, hPM, hDC, hDM, hsp⟩ hS
set_option maxHeartbeats 4000000 in
set_option maxRecDepth 100000 in
theorem lc_span {p : Program} {l : Launch} {e : Env} {s : State} {m : MethodId} {below : List Frame} {meth : Method} {c : Code} {H : Heap} {locs : List Loc} {b L i : Nat} {xs : Nat → Int32} {Q : State → Prop} {ls : Array Slot} {k : pm_K} {adC adM : Nat → Nat} {σC σM : pm_M} {Rl : pm_M → pm_M → Prop} (hsp1 : sp_span Rl) (C0 : lw_At p s m meth c b L xs) (hK : va_K k.1 vwCl (pm_tys k) s) (hSf : pm_Sf k (fun q => s.heap.size ≤ q) s s.heap) (hL : L ≤ 3072) (hi : i + 6 ≤ L) (hRl : Rl σC σM) (hW : lw_Wd k adC adM (fun q => s.heap.size ≤ q) σC σM H) (hS : va_S (fun q => s.heap.size ≤ q) s.heap H locs) (hl : lv_has ls 4 [(0, .ref b), (1, .ref (adC 0)), (2, .ref (adM 0)), (3, .int (nI i))])
    (next : ∀ (H1 : Heap) (locs1 : List Loc) (τC τM : pm_M), Rl τC τM → lw_Wd k adC adM (fun q => s.heap.size ≤ q) τC τM H1 → va_S (fun q => s.heap.size ≤ q) s.heap H1 locs1 → W p l e room_1 s m #[Value.ref b] below meth c H1 locs1 600000 7302249 Q (F0 m 1376 ls [])) : W p l e room_1 s m #[Value.ref b] below meth c H locs 600000 7302249 Q (F0 m 1096 ls []) := by
  obtain ⟨hPC, hPM, hDC, hDM, hsp⟩ := hW
  obtain ⟨hx, hb, hr, hml, hown, hts, hX, hbl, hlocks, hgv⟩ := id C0
  obtain ⟨x1, hx1⟩ : ∃ y, y = xs (i + 1) := ⟨_, rfl⟩
  obtain ⟨x2, hx2⟩ : ∃ y, y = xs (i + 2) := ⟨_, rfl⟩
  obtain ⟨x3, hx3⟩ : ∃ y, y = xs (i + 3) := ⟨_, rfl⟩
  obtain ⟨ρC, ρM, hfC, hfM, hwr, hR2⟩ := hsp1 x1 x2 x3 σC σM hRl
  by_cases h0 : x3 = 0
  · rw [if_pos h0] at hfC hfM
    refine lv_aload_n hx hb dL_law_1096 rfl (lv_at hl 1 rfl) ?_
    refine lw_ld (j := 1) C0 hL hi hS hl dL_law_1097 dL_law_1098 dL_law_1099 dL_law_1100 dL_law_1101 (by decide) (by decide) ?_
    rw [← hx1]
    refine lw_ld (j := 2) C0 hL hi hS hl dL_law_1102 dL_law_1103 dL_law_1104 dL_law_1105 dL_law_1106 (by decide) (by decide) ?_
    rw [← hx2]
    refine lw_ld (j := 3) C0 hL hi hS hl dL_law_1107 dL_law_1108 dL_law_1109 dL_law_1110 dL_law_1111 (by decide) (by decide) ?_
    rw [← hx3]
    refine lv_if_eq (tgt := 1119) hx hb dL_law_1112 (by decide) (fun _ => ?_) (fun q => absurd h0 q)
    refine lv_iconst (v := 0) hx hb dL_law_1119 (by decide) ?_
    refine W.eq (g2 := F0 m 1120 ls (([pv_i x1.toInt, pv_i x2.toInt, pv_i 0].map (pm_cv adC k.2.2.2)).reverse ++ .ref (adC 0) :: [])) (by simp only [List.map_cons, List.map_nil, List.reverse_cons, List.reverse_nil, List.nil_append, List.cons_append, pm_cv, Int32.ofInt_toInt] <;> rfl) ?_
    refine lw_callV (lay := LAYC) (σ2 := ρC.2) (ci := 11) (q := (RX11, TX11, 11)) C0 hK hSf dL_law_1120 mk_L_131 lc_0 rfl rfl rfl (Nat.le_of_ble_eq_true rfl) (by decide) (by decide) (tmX11_span hfC) hPC hDC hS hl.1 (fun H1 locs1 hP1 hD1 hk1 hS1 => ?_)
    have hPM := lw_keep hsp hPM hk1
    clear hS hPC
    have hPC := hP1
    have hS := hS1
    have hDC := hD1
    clear hP1 hS1 hk1 hD1
    generalize H1 = H at hPC hPM hS ⊢
    generalize locs1 = locs at hS ⊢
    refine lv_aload_n hx hb dL_law_1123 rfl (lv_at hl 2 rfl) ?_
    refine lw_ld (j := 1) C0 hL hi hS hl dL_law_1124 dL_law_1125 dL_law_1126 dL_law_1127 dL_law_1128 (by decide) (by decide) ?_
    rw [← hx1]
    refine lw_ld (j := 2) C0 hL hi hS hl dL_law_1129 dL_law_1130 dL_law_1131 dL_law_1132 dL_law_1133 (by decide) (by decide) ?_
    rw [← hx2]
    refine lw_ld (j := 3) C0 hL hi hS hl dL_law_1134 dL_law_1135 dL_law_1136 dL_law_1137 dL_law_1138 (by decide) (by decide) ?_
    rw [← hx3]
    refine lv_if_eq (tgt := 1146) hx hb dL_law_1139 (by decide) (fun _ => ?_) (fun q => absurd h0 q)
    refine lv_iconst (v := 0) hx hb dL_law_1146 (by decide) ?_
    refine W.eq (g2 := F0 m 1147 ls (([pv_i x1.toInt, pv_i x2.toInt, pv_i 0].map (pm_cv adM k.2.2.2)).reverse ++ .ref (adM 0) :: [.int (Int32.ofInt ρC.1)])) (by simp only [List.map_cons, List.map_nil, List.reverse_cons, List.reverse_nil, List.nil_append, List.cons_append, pm_cv, Int32.ofInt_toInt] <;> rfl) ?_
    refine lw_callV (lay := LAYM) (σ2 := ρM.2) (ci := 12) (q := (RX12, TX12, 36)) C0 hK hSf dL_law_1147 mk_L_135 lm_0 rfl rfl rfl (Nat.le_of_ble_eq_true rfl) (by decide) (by decide) (tmX12_span hfM) hPM hDM hS hl.1 (fun H1 locs1 hP1 hD1 hk1 hS1 => ?_)
    have hPC := lw_keep (fun i j hi hj => (hsp j i hj hi).symm) hPC hk1
    clear hS hPM
    have hPM := hP1
    have hS := hS1
    have hDM := hD1
    clear hP1 hS1 hk1 hD1
    generalize H1 = H at hPC hPM hS ⊢
    generalize locs1 = locs at hS ⊢
    refine lv_icmp_eq (tgt := 1376) (x := Int32.ofInt ρC.1) (y := Int32.ofInt ρM.1) hx hb dL_law_1150 (by decide) (fun _ => ?_) (fun q => absurd ((pm_eq _ _).mpr hwr) q)
    exact next _ _ ρC.2 ρM.2 hR2 ⟨hPC, hPM, hDC, hDM, hsp⟩ hS
  · rw [if_neg h0] at hfC hfM
    refine lv_aload_n hx hb dL_law_1096 rfl (lv_at hl 1 rfl) ?_
    refine lw_ld (j := 1) C0 hL hi hS hl dL_law_1097 dL_law_1098 dL_law_1099 dL_law_1100 dL_law_1101 (by decide) (by decide) ?_
    rw [← hx1]
    refine lw_ld (j := 2) C0 hL hi hS hl dL_law_1102 dL_law_1103 dL_law_1104 dL_law_1105 dL_law_1106 (by decide) (by decide) ?_
    rw [← hx2]
    refine lw_ld (j := 3) C0 hL hi hS hl dL_law_1107 dL_law_1108 dL_law_1109 dL_law_1110 dL_law_1111 (by decide) (by decide) ?_
    rw [← hx3]
    refine lv_if_eq (tgt := 1119) hx hb dL_law_1112 (by decide) (fun q => absurd q h0) (fun _ => ?_)
    refine lv_iconst (v := 1) hx hb dL_law_1115 (by decide) ?_
    refine lv_goto (tgt := 1120) hx hb dL_law_1116 (by decide) ?_
    refine W.eq (g2 := F0 m 1120 ls (([pv_i x1.toInt, pv_i x2.toInt, pv_i 1].map (pm_cv adC k.2.2.2)).reverse ++ .ref (adC 0) :: [])) (by simp only [List.map_cons, List.map_nil, List.reverse_cons, List.reverse_nil, List.nil_append, List.cons_append, pm_cv, Int32.ofInt_toInt] <;> rfl) ?_
    refine lw_callV (lay := LAYC) (σ2 := ρC.2) (ci := 11) (q := (RX11, TX11, 11)) C0 hK hSf dL_law_1120 mk_L_131 lc_0 rfl rfl rfl (Nat.le_of_ble_eq_true rfl) (by decide) (by decide) (tmX11_span hfC) hPC hDC hS hl.1 (fun H1 locs1 hP1 hD1 hk1 hS1 => ?_)
    have hPM := lw_keep hsp hPM hk1
    clear hS hPC
    have hPC := hP1
    have hS := hS1
    have hDC := hD1
    clear hP1 hS1 hk1 hD1
    generalize H1 = H at hPC hPM hS ⊢
    generalize locs1 = locs at hS ⊢
    refine lv_aload_n hx hb dL_law_1123 rfl (lv_at hl 2 rfl) ?_
    refine lw_ld (j := 1) C0 hL hi hS hl dL_law_1124 dL_law_1125 dL_law_1126 dL_law_1127 dL_law_1128 (by decide) (by decide) ?_
    rw [← hx1]
    refine lw_ld (j := 2) C0 hL hi hS hl dL_law_1129 dL_law_1130 dL_law_1131 dL_law_1132 dL_law_1133 (by decide) (by decide) ?_
    rw [← hx2]
    refine lw_ld (j := 3) C0 hL hi hS hl dL_law_1134 dL_law_1135 dL_law_1136 dL_law_1137 dL_law_1138 (by decide) (by decide) ?_
    rw [← hx3]
    refine lv_if_eq (tgt := 1146) hx hb dL_law_1139 (by decide) (fun q => absurd q h0) (fun _ => ?_)
    refine lv_iconst (v := 1) hx hb dL_law_1142 (by decide) ?_
    refine lv_goto (tgt := 1147) hx hb dL_law_1143 (by decide) ?_
    refine W.eq (g2 := F0 m 1147 ls (([pv_i x1.toInt, pv_i x2.toInt, pv_i 1].map (pm_cv adM k.2.2.2)).reverse ++ .ref (adM 0) :: [.int (Int32.ofInt ρC.1)])) (by simp only [List.map_cons, List.map_nil, List.reverse_cons, List.reverse_nil, List.nil_append, List.cons_append, pm_cv, Int32.ofInt_toInt] <;> rfl) ?_
    refine lw_callV (lay := LAYM) (σ2 := ρM.2) (ci := 12) (q := (RX12, TX12, 36)) C0 hK hSf dL_law_1147 mk_L_135 lm_0 rfl rfl rfl (Nat.le_of_ble_eq_true rfl) (by decide) (by decide) (tmX12_span hfM) hPM hDM hS hl.1 (fun H1 locs1 hP1 hD1 hk1 hS1 => ?_)
    have hPC := lw_keep (fun i j hi hj => (hsp j i hj hi).symm) hPC hk1
    clear hS hPM
    have hPM := hP1
    have hS := hS1
    have hDM := hD1
    clear hP1 hS1 hk1 hD1
    generalize H1 = H at hPC hPM hS ⊢
    generalize locs1 = locs at hS ⊢
    refine lv_icmp_eq (tgt := 1376) (x := Int32.ofInt ρC.1) (y := Int32.ofInt ρM.1) hx hb dL_law_1150 (by decide) (fun _ => ?_) (fun q => absurd ((pm_eq _ _).mpr hwr) q)
    exact next _ _ ρC.2 ρM.2 hR2 ⟨hPC, hPM, hDC, hDM, hsp⟩ hS
set_option maxHeartbeats 4000000 in
set_option maxRecDepth 100000 in
theorem lc_heapOf {p : Program} {l : Launch} {e : Env} {s : State} {m : MethodId} {below : List Frame} {meth : Method} {c : Code} {H : Heap} {locs : List Loc} {b L i : Nat} {xs : Nat → Int32} {Q : State → Prop} {ls : Array Slot} {k : pm_K} {adC adM : Nat → Nat} {σC σM : pm_M} {Rl : pm_M → pm_M → Prop} (hsp1 : sp_heapOf Rl) (C0 : lw_At p s m meth c b L xs) (hK : va_K k.1 vwCl (pm_tys k) s) (hSf : pm_Sf k (fun q => s.heap.size ≤ q) s s.heap) (hL : L ≤ 3072) (hi : i + 6 ≤ L) (hRl : Rl σC σM) (hW : lw_Wd k adC adM (fun q => s.heap.size ≤ q) σC σM H) (hS : va_S (fun q => s.heap.size ≤ q) s.heap H locs) (hl : lv_has ls 4 [(0, .ref b), (1, .ref (adC 0)), (2, .ref (adM 0)), (3, .int (nI i))])
    (next : ∀ (H1 : Heap) (locs1 : List Loc) (τC τM : pm_M), Rl τC τM → lw_Wd k adC adM (fun q => s.heap.size ≤ q) τC τM H1 → va_S (fun q => s.heap.size ≤ q) s.heap H1 locs1 → W p l e room_1 s m #[Value.ref b] below meth c H1 locs1 600000 7302249 Q (F0 m 1376 ls [])) : W p l e room_1 s m #[Value.ref b] below meth c H locs 600000 7302249 Q (F0 m 1155 ls []) := by
  obtain ⟨hPC, hPM, hDC, hDM, hsp⟩ := hW
  obtain ⟨hx, hb, hr, hml, hown, hts, hX, hbl, hlocks, hgv⟩ := id C0
  obtain ⟨x1, hx1⟩ : ∃ y, y = xs (i + 1) := ⟨_, rfl⟩
  obtain ⟨x2, hx2⟩ : ∃ y, y = xs (i + 2) := ⟨_, rfl⟩
  obtain ⟨ρC, ρM, hfC, hfM, hwr, hR2⟩ := hsp1 x1 x2 σC σM hRl
  refine lv_aload_n hx hb dL_law_1155 rfl (lv_at hl 1 rfl) ?_
  refine lw_ld (j := 1) C0 hL hi hS hl dL_law_1156 dL_law_1157 dL_law_1158 dL_law_1159 dL_law_1160 (by decide) (by decide) ?_
  rw [← hx1]
  refine lw_ld (j := 2) C0 hL hi hS hl dL_law_1161 dL_law_1162 dL_law_1163 dL_law_1164 dL_law_1165 (by decide) (by decide) ?_
  rw [← hx2]
  refine W.eq (g2 := F0 m 1166 ls (([pv_i x1.toInt, pv_i x2.toInt].map (pm_cv adC k.2.2.2)).reverse ++ .ref (adC 0) :: [])) (by simp only [List.map_cons, List.map_nil, List.reverse_cons, List.reverse_nil, List.nil_append, List.cons_append, pm_cv, Int32.ofInt_toInt] <;> rfl) ?_
  refine lw_callV (lay := LAYC) (σ2 := ρC.2) (ci := 11) (q := (RX11, TX11, 11)) C0 hK hSf dL_law_1166 mk_L_136 lc_0 rfl rfl rfl (Nat.le_of_ble_eq_true rfl) (by decide) (by decide) (tmX11_heapOf hfC) hPC hDC hS hl.1 (fun H1 locs1 hP1 hD1 hk1 hS1 => ?_)
  have hPM := lw_keep hsp hPM hk1
  clear hS hPC
  have hPC := hP1
  have hS := hS1
  have hDC := hD1
  clear hP1 hS1 hk1 hD1
  generalize H1 = H at hPC hPM hS ⊢
  generalize locs1 = locs at hS ⊢
  refine lv_aload_n hx hb dL_law_1169 rfl (lv_at hl 2 rfl) ?_
  refine lw_ld (j := 1) C0 hL hi hS hl dL_law_1170 dL_law_1171 dL_law_1172 dL_law_1173 dL_law_1174 (by decide) (by decide) ?_
  rw [← hx1]
  refine lw_ld (j := 2) C0 hL hi hS hl dL_law_1175 dL_law_1176 dL_law_1177 dL_law_1178 dL_law_1179 (by decide) (by decide) ?_
  rw [← hx2]
  refine W.eq (g2 := F0 m 1180 ls (([pv_i x1.toInt, pv_i x2.toInt].map (pm_cv adM k.2.2.2)).reverse ++ .ref (adM 0) :: [.int (Int32.ofInt ρC.1)])) (by simp only [List.map_cons, List.map_nil, List.reverse_cons, List.reverse_nil, List.nil_append, List.cons_append, pm_cv, Int32.ofInt_toInt] <;> rfl) ?_
  refine lw_callV (lay := LAYM) (σ2 := ρM.2) (ci := 12) (q := (RX12, TX12, 36)) C0 hK hSf dL_law_1180 mk_L_139 lm_0 rfl rfl rfl (Nat.le_of_ble_eq_true rfl) (by decide) (by decide) (tmX12_heapOf hfM) hPM hDM hS hl.1 (fun H1 locs1 hP1 hD1 hk1 hS1 => ?_)
  have hPC := lw_keep (fun i j hi hj => (hsp j i hj hi).symm) hPC hk1
  clear hS hPM
  have hPM := hP1
  have hS := hS1
  have hDM := hD1
  clear hP1 hS1 hk1 hD1
  generalize H1 = H at hPC hPM hS ⊢
  generalize locs1 = locs at hS ⊢
  refine lv_icmp_eq (tgt := 1376) (x := Int32.ofInt ρC.1) (y := Int32.ofInt ρM.1) hx hb dL_law_1183 (by decide) (fun _ => ?_) (fun q => absurd ((pm_eq _ _).mpr hwr) q)
  exact next _ _ ρC.2 ρM.2 hR2 ⟨hPC, hPM, hDC, hDM, hsp⟩ hS
set_option maxHeartbeats 4000000 in
set_option maxRecDepth 100000 in
theorem lc_beaterOf {p : Program} {l : Launch} {e : Env} {s : State} {m : MethodId} {below : List Frame} {meth : Method} {c : Code} {H : Heap} {locs : List Loc} {b L i : Nat} {xs : Nat → Int32} {Q : State → Prop} {ls : Array Slot} {k : pm_K} {adC adM : Nat → Nat} {σC σM : pm_M} {Rl : pm_M → pm_M → Prop} (hsp1 : sp_beaterOf Rl) (C0 : lw_At p s m meth c b L xs) (hK : va_K k.1 vwCl (pm_tys k) s) (hSf : pm_Sf k (fun q => s.heap.size ≤ q) s s.heap) (hL : L ≤ 3072) (hi : i + 6 ≤ L) (hRl : Rl σC σM) (hW : lw_Wd k adC adM (fun q => s.heap.size ≤ q) σC σM H) (hS : va_S (fun q => s.heap.size ≤ q) s.heap H locs) (hl : lv_has ls 4 [(0, .ref b), (1, .ref (adC 0)), (2, .ref (adM 0)), (3, .int (nI i))])
    (next : ∀ (H1 : Heap) (locs1 : List Loc) (τC τM : pm_M), Rl τC τM → lw_Wd k adC adM (fun q => s.heap.size ≤ q) τC τM H1 → va_S (fun q => s.heap.size ≤ q) s.heap H1 locs1 → W p l e room_1 s m #[Value.ref b] below meth c H1 locs1 600000 7302249 Q (F0 m 1376 ls [])) : W p l e room_1 s m #[Value.ref b] below meth c H locs 600000 7302249 Q (F0 m 1188 ls []) := by
  obtain ⟨hPC, hPM, hDC, hDM, hsp⟩ := hW
  obtain ⟨hx, hb, hr, hml, hown, hts, hX, hbl, hlocks, hgv⟩ := id C0
  obtain ⟨x1, hx1⟩ : ∃ y, y = xs (i + 1) := ⟨_, rfl⟩
  obtain ⟨x2, hx2⟩ : ∃ y, y = xs (i + 2) := ⟨_, rfl⟩
  obtain ⟨ρC, ρM, hfC, hfM, hwr, hR2⟩ := hsp1 x1 x2 σC σM hRl
  refine lv_aload_n hx hb dL_law_1188 rfl (lv_at hl 1 rfl) ?_
  refine lw_ld (j := 1) C0 hL hi hS hl dL_law_1189 dL_law_1190 dL_law_1191 dL_law_1192 dL_law_1193 (by decide) (by decide) ?_
  rw [← hx1]
  refine lw_ld (j := 2) C0 hL hi hS hl dL_law_1194 dL_law_1195 dL_law_1196 dL_law_1197 dL_law_1198 (by decide) (by decide) ?_
  rw [← hx2]
  refine W.eq (g2 := F0 m 1199 ls (([pv_i x1.toInt, pv_i x2.toInt].map (pm_cv adC k.2.2.2)).reverse ++ .ref (adC 0) :: [])) (by simp only [List.map_cons, List.map_nil, List.reverse_cons, List.reverse_nil, List.nil_append, List.cons_append, pm_cv, Int32.ofInt_toInt] <;> rfl) ?_
  refine lw_callV (lay := LAYC) (σ2 := ρC.2) (ci := 11) (q := (RX11, TX11, 11)) C0 hK hSf dL_law_1199 mk_L_140 lc_0 rfl rfl rfl (Nat.le_of_ble_eq_true rfl) (by decide) (by decide) (tmX11_beaterOf hfC) hPC hDC hS hl.1 (fun H1 locs1 hP1 hD1 hk1 hS1 => ?_)
  have hPM := lw_keep hsp hPM hk1
  clear hS hPC
  have hPC := hP1
  have hS := hS1
  have hDC := hD1
  clear hP1 hS1 hk1 hD1
  generalize H1 = H at hPC hPM hS ⊢
  generalize locs1 = locs at hS ⊢
  refine lv_aload_n hx hb dL_law_1202 rfl (lv_at hl 2 rfl) ?_
  refine lw_ld (j := 1) C0 hL hi hS hl dL_law_1203 dL_law_1204 dL_law_1205 dL_law_1206 dL_law_1207 (by decide) (by decide) ?_
  rw [← hx1]
  refine lw_ld (j := 2) C0 hL hi hS hl dL_law_1208 dL_law_1209 dL_law_1210 dL_law_1211 dL_law_1212 (by decide) (by decide) ?_
  rw [← hx2]
  refine W.eq (g2 := F0 m 1213 ls (([pv_i x1.toInt, pv_i x2.toInt].map (pm_cv adM k.2.2.2)).reverse ++ .ref (adM 0) :: [.int (Int32.ofInt ρC.1)])) (by simp only [List.map_cons, List.map_nil, List.reverse_cons, List.reverse_nil, List.nil_append, List.cons_append, pm_cv, Int32.ofInt_toInt] <;> rfl) ?_
  refine lw_callV (lay := LAYM) (σ2 := ρM.2) (ci := 12) (q := (RX12, TX12, 36)) C0 hK hSf dL_law_1213 mk_L_143 lm_0 rfl rfl rfl (Nat.le_of_ble_eq_true rfl) (by decide) (by decide) (tmX12_beaterOf hfM) hPM hDM hS hl.1 (fun H1 locs1 hP1 hD1 hk1 hS1 => ?_)
  have hPC := lw_keep (fun i j hi hj => (hsp j i hj hi).symm) hPC hk1
  clear hS hPM
  have hPM := hP1
  have hS := hS1
  have hDM := hD1
  clear hP1 hS1 hk1 hD1
  generalize H1 = H at hPC hPM hS ⊢
  generalize locs1 = locs at hS ⊢
  refine lv_icmp_eq (tgt := 1376) (x := Int32.ofInt ρC.1) (y := Int32.ofInt ρM.1) hx hb dL_law_1216 (by decide) (fun _ => ?_) (fun q => absurd ((pm_eq _ _).mpr hwr) q)
  exact next _ _ ρC.2 ρM.2 hR2 ⟨hPC, hPM, hDC, hDM, hsp⟩ hS
set_option maxHeartbeats 4000000 in
set_option maxRecDepth 100000 in
theorem lc_vatOf {p : Program} {l : Launch} {e : Env} {s : State} {m : MethodId} {below : List Frame} {meth : Method} {c : Code} {H : Heap} {locs : List Loc} {b L i : Nat} {xs : Nat → Int32} {Q : State → Prop} {ls : Array Slot} {k : pm_K} {adC adM : Nat → Nat} {σC σM : pm_M} {Rl : pm_M → pm_M → Prop} (hsp1 : sp_vatOf Rl) (C0 : lw_At p s m meth c b L xs) (hK : va_K k.1 vwCl (pm_tys k) s) (hSf : pm_Sf k (fun q => s.heap.size ≤ q) s s.heap) (hL : L ≤ 3072) (hi : i + 6 ≤ L) (hRl : Rl σC σM) (hW : lw_Wd k adC adM (fun q => s.heap.size ≤ q) σC σM H) (hS : va_S (fun q => s.heap.size ≤ q) s.heap H locs) (hl : lv_has ls 4 [(0, .ref b), (1, .ref (adC 0)), (2, .ref (adM 0)), (3, .int (nI i))])
    (next : ∀ (H1 : Heap) (locs1 : List Loc) (τC τM : pm_M), Rl τC τM → lw_Wd k adC adM (fun q => s.heap.size ≤ q) τC τM H1 → va_S (fun q => s.heap.size ≤ q) s.heap H1 locs1 → W p l e room_1 s m #[Value.ref b] below meth c H1 locs1 600000 7302249 Q (F0 m 1376 ls [])) : W p l e room_1 s m #[Value.ref b] below meth c H locs 600000 7302249 Q (F0 m 1221 ls []) := by
  obtain ⟨hPC, hPM, hDC, hDM, hsp⟩ := hW
  obtain ⟨hx, hb, hr, hml, hown, hts, hX, hbl, hlocks, hgv⟩ := id C0
  obtain ⟨x1, hx1⟩ : ∃ y, y = xs (i + 1) := ⟨_, rfl⟩
  obtain ⟨x2, hx2⟩ : ∃ y, y = xs (i + 2) := ⟨_, rfl⟩
  obtain ⟨ρC, ρM, hfC, hfM, hwr, hR2⟩ := hsp1 x1 x2 σC σM hRl
  refine lv_aload_n hx hb dL_law_1221 rfl (lv_at hl 1 rfl) ?_
  refine lw_ld (j := 1) C0 hL hi hS hl dL_law_1222 dL_law_1223 dL_law_1224 dL_law_1225 dL_law_1226 (by decide) (by decide) ?_
  rw [← hx1]
  refine lw_ld (j := 2) C0 hL hi hS hl dL_law_1227 dL_law_1228 dL_law_1229 dL_law_1230 dL_law_1231 (by decide) (by decide) ?_
  rw [← hx2]
  refine W.eq (g2 := F0 m 1232 ls (([pv_i x1.toInt, pv_i x2.toInt].map (pm_cv adC k.2.2.2)).reverse ++ .ref (adC 0) :: [])) (by simp only [List.map_cons, List.map_nil, List.reverse_cons, List.reverse_nil, List.nil_append, List.cons_append, pm_cv, Int32.ofInt_toInt] <;> rfl) ?_
  refine lw_callV (lay := LAYC) (σ2 := ρC.2) (ci := 11) (q := (RX11, TX11, 11)) C0 hK hSf dL_law_1232 mk_L_144 lc_0 rfl rfl rfl (Nat.le_of_ble_eq_true rfl) (by decide) (by decide) (tmX11_vatOf hfC) hPC hDC hS hl.1 (fun H1 locs1 hP1 hD1 hk1 hS1 => ?_)
  have hPM := lw_keep hsp hPM hk1
  clear hS hPC
  have hPC := hP1
  have hS := hS1
  have hDC := hD1
  clear hP1 hS1 hk1 hD1
  generalize H1 = H at hPC hPM hS ⊢
  generalize locs1 = locs at hS ⊢
  refine lv_aload_n hx hb dL_law_1235 rfl (lv_at hl 2 rfl) ?_
  refine lw_ld (j := 1) C0 hL hi hS hl dL_law_1236 dL_law_1237 dL_law_1238 dL_law_1239 dL_law_1240 (by decide) (by decide) ?_
  rw [← hx1]
  refine lw_ld (j := 2) C0 hL hi hS hl dL_law_1241 dL_law_1242 dL_law_1243 dL_law_1244 dL_law_1245 (by decide) (by decide) ?_
  rw [← hx2]
  refine W.eq (g2 := F0 m 1246 ls (([pv_i x1.toInt, pv_i x2.toInt].map (pm_cv adM k.2.2.2)).reverse ++ .ref (adM 0) :: [.int (Int32.ofInt ρC.1)])) (by simp only [List.map_cons, List.map_nil, List.reverse_cons, List.reverse_nil, List.nil_append, List.cons_append, pm_cv, Int32.ofInt_toInt] <;> rfl) ?_
  refine lw_callV (lay := LAYM) (σ2 := ρM.2) (ci := 12) (q := (RX12, TX12, 36)) C0 hK hSf dL_law_1246 mk_L_147 lm_0 rfl rfl rfl (Nat.le_of_ble_eq_true rfl) (by decide) (by decide) (tmX12_vatOf hfM) hPM hDM hS hl.1 (fun H1 locs1 hP1 hD1 hk1 hS1 => ?_)
  have hPC := lw_keep (fun i j hi hj => (hsp j i hj hi).symm) hPC hk1
  clear hS hPM
  have hPM := hP1
  have hS := hS1
  have hDM := hD1
  clear hP1 hS1 hk1 hD1
  generalize H1 = H at hPC hPM hS ⊢
  generalize locs1 = locs at hS ⊢
  refine lv_icmp_eq (tgt := 1376) (x := Int32.ofInt ρC.1) (y := Int32.ofInt ρM.1) hx hb dL_law_1249 (by decide) (fun _ => ?_) (fun q => absurd ((pm_eq _ _).mpr hwr) q)
  exact next _ _ ρC.2 ρM.2 hR2 ⟨hPC, hPM, hDC, hDM, hsp⟩ hS
set_option maxHeartbeats 4000000 in
set_option maxRecDepth 100000 in
theorem lc_postOf {p : Program} {l : Launch} {e : Env} {s : State} {m : MethodId} {below : List Frame} {meth : Method} {c : Code} {H : Heap} {locs : List Loc} {b L i : Nat} {xs : Nat → Int32} {Q : State → Prop} {ls : Array Slot} {k : pm_K} {adC adM : Nat → Nat} {σC σM : pm_M} {Rl : pm_M → pm_M → Prop} (hsp1 : sp_postOf Rl) (C0 : lw_At p s m meth c b L xs) (hK : va_K k.1 vwCl (pm_tys k) s) (hSf : pm_Sf k (fun q => s.heap.size ≤ q) s s.heap) (hL : L ≤ 3072) (hi : i + 6 ≤ L) (hRl : Rl σC σM) (hW : lw_Wd k adC adM (fun q => s.heap.size ≤ q) σC σM H) (hS : va_S (fun q => s.heap.size ≤ q) s.heap H locs) (hl : lv_has ls 4 [(0, .ref b), (1, .ref (adC 0)), (2, .ref (adM 0)), (3, .int (nI i))])
    (next : ∀ (H1 : Heap) (locs1 : List Loc) (τC τM : pm_M), Rl τC τM → lw_Wd k adC adM (fun q => s.heap.size ≤ q) τC τM H1 → va_S (fun q => s.heap.size ≤ q) s.heap H1 locs1 → W p l e room_1 s m #[Value.ref b] below meth c H1 locs1 600000 7302249 Q (F0 m 1376 ls [])) : W p l e room_1 s m #[Value.ref b] below meth c H locs 600000 7302249 Q (F0 m 1254 ls []) := by
  obtain ⟨hPC, hPM, hDC, hDM, hsp⟩ := hW
  obtain ⟨hx, hb, hr, hml, hown, hts, hX, hbl, hlocks, hgv⟩ := id C0
  obtain ⟨x1, hx1⟩ : ∃ y, y = xs (i + 1) := ⟨_, rfl⟩
  obtain ⟨x2, hx2⟩ : ∃ y, y = xs (i + 2) := ⟨_, rfl⟩
  obtain ⟨ρC, ρM, hfC, hfM, hwr, hR2⟩ := hsp1 x1 x2 σC σM hRl
  refine lv_aload_n hx hb dL_law_1254 rfl (lv_at hl 1 rfl) ?_
  refine lw_ld (j := 1) C0 hL hi hS hl dL_law_1255 dL_law_1256 dL_law_1257 dL_law_1258 dL_law_1259 (by decide) (by decide) ?_
  rw [← hx1]
  refine lw_ld (j := 2) C0 hL hi hS hl dL_law_1260 dL_law_1261 dL_law_1262 dL_law_1263 dL_law_1264 (by decide) (by decide) ?_
  rw [← hx2]
  refine W.eq (g2 := F0 m 1265 ls (([pv_i x1.toInt, pv_i x2.toInt].map (pm_cv adC k.2.2.2)).reverse ++ .ref (adC 0) :: [])) (by simp only [List.map_cons, List.map_nil, List.reverse_cons, List.reverse_nil, List.nil_append, List.cons_append, pm_cv, Int32.ofInt_toInt] <;> rfl) ?_
  refine lw_callV (lay := LAYC) (σ2 := ρC.2) (ci := 11) (q := (RX11, TX11, 11)) C0 hK hSf dL_law_1265 mk_L_148 lc_0 rfl rfl rfl (Nat.le_of_ble_eq_true rfl) (by decide) (by decide) (tmX11_postOf hfC) hPC hDC hS hl.1 (fun H1 locs1 hP1 hD1 hk1 hS1 => ?_)
  have hPM := lw_keep hsp hPM hk1
  clear hS hPC
  have hPC := hP1
  have hS := hS1
  have hDC := hD1
  clear hP1 hS1 hk1 hD1
  generalize H1 = H at hPC hPM hS ⊢
  generalize locs1 = locs at hS ⊢
  refine lv_aload_n hx hb dL_law_1268 rfl (lv_at hl 2 rfl) ?_
  refine lw_ld (j := 1) C0 hL hi hS hl dL_law_1269 dL_law_1270 dL_law_1271 dL_law_1272 dL_law_1273 (by decide) (by decide) ?_
  rw [← hx1]
  refine lw_ld (j := 2) C0 hL hi hS hl dL_law_1274 dL_law_1275 dL_law_1276 dL_law_1277 dL_law_1278 (by decide) (by decide) ?_
  rw [← hx2]
  refine W.eq (g2 := F0 m 1279 ls (([pv_i x1.toInt, pv_i x2.toInt].map (pm_cv adM k.2.2.2)).reverse ++ .ref (adM 0) :: [.int (Int32.ofInt ρC.1)])) (by simp only [List.map_cons, List.map_nil, List.reverse_cons, List.reverse_nil, List.nil_append, List.cons_append, pm_cv, Int32.ofInt_toInt] <;> rfl) ?_
  refine lw_callV (lay := LAYM) (σ2 := ρM.2) (ci := 12) (q := (RX12, TX12, 36)) C0 hK hSf dL_law_1279 mk_L_151 lm_0 rfl rfl rfl (Nat.le_of_ble_eq_true rfl) (by decide) (by decide) (tmX12_postOf hfM) hPM hDM hS hl.1 (fun H1 locs1 hP1 hD1 hk1 hS1 => ?_)
  have hPC := lw_keep (fun i j hi hj => (hsp j i hj hi).symm) hPC hk1
  clear hS hPM
  have hPM := hP1
  have hS := hS1
  have hDM := hD1
  clear hP1 hS1 hk1 hD1
  generalize H1 = H at hPC hPM hS ⊢
  generalize locs1 = locs at hS ⊢
  refine lv_icmp_eq (tgt := 1376) (x := Int32.ofInt ρC.1) (y := Int32.ofInt ρM.1) hx hb dL_law_1282 (by decide) (fun _ => ?_) (fun q => absurd ((pm_eq _ _).mpr hwr) q)
  exact next _ _ ρC.2 ρM.2 hR2 ⟨hPC, hPM, hDC, hDM, hsp⟩ hS
set_option maxHeartbeats 4000000 in
set_option maxRecDepth 100000 in
theorem lc_orderOf {p : Program} {l : Launch} {e : Env} {s : State} {m : MethodId} {below : List Frame} {meth : Method} {c : Code} {H : Heap} {locs : List Loc} {b L i : Nat} {xs : Nat → Int32} {Q : State → Prop} {ls : Array Slot} {k : pm_K} {adC adM : Nat → Nat} {σC σM : pm_M} {Rl : pm_M → pm_M → Prop} (hsp1 : sp_orderOf Rl) (C0 : lw_At p s m meth c b L xs) (hK : va_K k.1 vwCl (pm_tys k) s) (hSf : pm_Sf k (fun q => s.heap.size ≤ q) s s.heap) (hL : L ≤ 3072) (hi : i + 6 ≤ L) (hRl : Rl σC σM) (hW : lw_Wd k adC adM (fun q => s.heap.size ≤ q) σC σM H) (hS : va_S (fun q => s.heap.size ≤ q) s.heap H locs) (hl : lv_has ls 4 [(0, .ref b), (1, .ref (adC 0)), (2, .ref (adM 0)), (3, .int (nI i))])
    (next : ∀ (H1 : Heap) (locs1 : List Loc) (τC τM : pm_M), Rl τC τM → lw_Wd k adC adM (fun q => s.heap.size ≤ q) τC τM H1 → va_S (fun q => s.heap.size ≤ q) s.heap H1 locs1 → W p l e room_1 s m #[Value.ref b] below meth c H1 locs1 600000 7302249 Q (F0 m 1376 ls [])) : W p l e room_1 s m #[Value.ref b] below meth c H locs 600000 7302249 Q (F0 m 1287 ls []) := by
  obtain ⟨hPC, hPM, hDC, hDM, hsp⟩ := hW
  obtain ⟨hx, hb, hr, hml, hown, hts, hX, hbl, hlocks, hgv⟩ := id C0
  obtain ⟨x1, hx1⟩ : ∃ y, y = xs (i + 1) := ⟨_, rfl⟩
  obtain ⟨x2, hx2⟩ : ∃ y, y = xs (i + 2) := ⟨_, rfl⟩
  obtain ⟨ρC, ρM, hfC, hfM, hwr, hR2⟩ := hsp1 x1 x2 σC σM hRl
  refine lv_aload_n hx hb dL_law_1287 rfl (lv_at hl 1 rfl) ?_
  refine lw_ld (j := 1) C0 hL hi hS hl dL_law_1288 dL_law_1289 dL_law_1290 dL_law_1291 dL_law_1292 (by decide) (by decide) ?_
  rw [← hx1]
  refine lw_ld (j := 2) C0 hL hi hS hl dL_law_1293 dL_law_1294 dL_law_1295 dL_law_1296 dL_law_1297 (by decide) (by decide) ?_
  rw [← hx2]
  refine W.eq (g2 := F0 m 1298 ls (([pv_i x1.toInt, pv_i x2.toInt].map (pm_cv adC k.2.2.2)).reverse ++ .ref (adC 0) :: [])) (by simp only [List.map_cons, List.map_nil, List.reverse_cons, List.reverse_nil, List.nil_append, List.cons_append, pm_cv, Int32.ofInt_toInt] <;> rfl) ?_
  refine lw_callV (lay := LAYC) (σ2 := ρC.2) (ci := 11) (q := (RX11, TX11, 11)) C0 hK hSf dL_law_1298 mk_L_152 lc_0 rfl rfl rfl (Nat.le_of_ble_eq_true rfl) (by decide) (by decide) (tmX11_orderOf hfC) hPC hDC hS hl.1 (fun H1 locs1 hP1 hD1 hk1 hS1 => ?_)
  have hPM := lw_keep hsp hPM hk1
  clear hS hPC
  have hPC := hP1
  have hS := hS1
  have hDC := hD1
  clear hP1 hS1 hk1 hD1
  generalize H1 = H at hPC hPM hS ⊢
  generalize locs1 = locs at hS ⊢
  refine lv_aload_n hx hb dL_law_1301 rfl (lv_at hl 2 rfl) ?_
  refine lw_ld (j := 1) C0 hL hi hS hl dL_law_1302 dL_law_1303 dL_law_1304 dL_law_1305 dL_law_1306 (by decide) (by decide) ?_
  rw [← hx1]
  refine lw_ld (j := 2) C0 hL hi hS hl dL_law_1307 dL_law_1308 dL_law_1309 dL_law_1310 dL_law_1311 (by decide) (by decide) ?_
  rw [← hx2]
  refine W.eq (g2 := F0 m 1312 ls (([pv_i x1.toInt, pv_i x2.toInt].map (pm_cv adM k.2.2.2)).reverse ++ .ref (adM 0) :: [.int (Int32.ofInt ρC.1)])) (by simp only [List.map_cons, List.map_nil, List.reverse_cons, List.reverse_nil, List.nil_append, List.cons_append, pm_cv, Int32.ofInt_toInt] <;> rfl) ?_
  refine lw_callV (lay := LAYM) (σ2 := ρM.2) (ci := 12) (q := (RX12, TX12, 36)) C0 hK hSf dL_law_1312 mk_L_155 lm_0 rfl rfl rfl (Nat.le_of_ble_eq_true rfl) (by decide) (by decide) (tmX12_orderOf hfM) hPM hDM hS hl.1 (fun H1 locs1 hP1 hD1 hk1 hS1 => ?_)
  have hPC := lw_keep (fun i j hi hj => (hsp j i hj hi).symm) hPC hk1
  clear hS hPM
  have hPM := hP1
  have hS := hS1
  have hDM := hD1
  clear hP1 hS1 hk1 hD1
  generalize H1 = H at hPC hPM hS ⊢
  generalize locs1 = locs at hS ⊢
  refine lv_icmp_eq (tgt := 1376) (x := Int32.ofInt ρC.1) (y := Int32.ofInt ρM.1) hx hb dL_law_1315 (by decide) (fun _ => ?_) (fun q => absurd ((pm_eq _ _).mpr hwr) q)
  exact next _ _ ρC.2 ρM.2 hR2 ⟨hPC, hPM, hDC, hDM, hsp⟩ hS
set_option maxHeartbeats 4000000 in
set_option maxRecDepth 100000 in
theorem lc_sheets {p : Program} {l : Launch} {e : Env} {s : State} {m : MethodId} {below : List Frame} {meth : Method} {c : Code} {H : Heap} {locs : List Loc} {b L i : Nat} {xs : Nat → Int32} {Q : State → Prop} {ls : Array Slot} {k : pm_K} {adC adM : Nat → Nat} {σC σM : pm_M} {Rl : pm_M → pm_M → Prop} (hsp1 : sp_sheets Rl) (C0 : lw_At p s m meth c b L xs) (hK : va_K k.1 vwCl (pm_tys k) s) (hSf : pm_Sf k (fun q => s.heap.size ≤ q) s s.heap) (hL : L ≤ 3072) (hi : i + 6 ≤ L) (hRl : Rl σC σM) (hW : lw_Wd k adC adM (fun q => s.heap.size ≤ q) σC σM H) (hS : va_S (fun q => s.heap.size ≤ q) s.heap H locs) (hl : lv_has ls 4 [(0, .ref b), (1, .ref (adC 0)), (2, .ref (adM 0)), (3, .int (nI i))])
    (next : ∀ (H1 : Heap) (locs1 : List Loc) (τC τM : pm_M), Rl τC τM → lw_Wd k adC adM (fun q => s.heap.size ≤ q) τC τM H1 → va_S (fun q => s.heap.size ≤ q) s.heap H1 locs1 → W p l e room_1 s m #[Value.ref b] below meth c H1 locs1 600000 7302249 Q (F0 m 1376 ls [])) : W p l e room_1 s m #[Value.ref b] below meth c H locs 600000 7302249 Q (F0 m 1320 ls []) := by
  obtain ⟨hPC, hPM, hDC, hDM, hsp⟩ := hW
  obtain ⟨hx, hb, hr, hml, hown, hts, hX, hbl, hlocks, hgv⟩ := id C0
  obtain ⟨x1, hx1⟩ : ∃ y, y = xs (i + 1) := ⟨_, rfl⟩
  obtain ⟨x2, hx2⟩ : ∃ y, y = xs (i + 2) := ⟨_, rfl⟩
  obtain ⟨ρC, ρM, hfC, hfM, hwr, hR2⟩ := hsp1 x1 x2 σC σM hRl
  refine lv_aload_n hx hb dL_law_1320 rfl (lv_at hl 1 rfl) ?_
  refine lw_ld (j := 1) C0 hL hi hS hl dL_law_1321 dL_law_1322 dL_law_1323 dL_law_1324 dL_law_1325 (by decide) (by decide) ?_
  rw [← hx1]
  refine lw_ld (j := 2) C0 hL hi hS hl dL_law_1326 dL_law_1327 dL_law_1328 dL_law_1329 dL_law_1330 (by decide) (by decide) ?_
  rw [← hx2]
  refine W.eq (g2 := F0 m 1331 ls (([pv_i x1.toInt, pv_i x2.toInt].map (pm_cv adC k.2.2.2)).reverse ++ .ref (adC 0) :: [])) (by simp only [List.map_cons, List.map_nil, List.reverse_cons, List.reverse_nil, List.nil_append, List.cons_append, pm_cv, Int32.ofInt_toInt] <;> rfl) ?_
  refine lw_callV (lay := LAYC) (σ2 := ρC.2) (ci := 11) (q := (RX11, TX11, 11)) C0 hK hSf dL_law_1331 mk_L_156 lc_0 rfl rfl rfl (Nat.le_of_ble_eq_true rfl) (by decide) (by decide) (tmX11_sheets hfC) hPC hDC hS hl.1 (fun H1 locs1 hP1 hD1 hk1 hS1 => ?_)
  have hPM := lw_keep hsp hPM hk1
  clear hS hPC
  have hPC := hP1
  have hS := hS1
  have hDC := hD1
  clear hP1 hS1 hk1 hD1
  generalize H1 = H at hPC hPM hS ⊢
  generalize locs1 = locs at hS ⊢
  refine lv_aload_n hx hb dL_law_1334 rfl (lv_at hl 2 rfl) ?_
  refine lw_ld (j := 1) C0 hL hi hS hl dL_law_1335 dL_law_1336 dL_law_1337 dL_law_1338 dL_law_1339 (by decide) (by decide) ?_
  rw [← hx1]
  refine lw_ld (j := 2) C0 hL hi hS hl dL_law_1340 dL_law_1341 dL_law_1342 dL_law_1343 dL_law_1344 (by decide) (by decide) ?_
  rw [← hx2]
  refine W.eq (g2 := F0 m 1345 ls (([pv_i x1.toInt, pv_i x2.toInt].map (pm_cv adM k.2.2.2)).reverse ++ .ref (adM 0) :: [.int (Int32.ofInt ρC.1)])) (by simp only [List.map_cons, List.map_nil, List.reverse_cons, List.reverse_nil, List.nil_append, List.cons_append, pm_cv, Int32.ofInt_toInt] <;> rfl) ?_
  refine lw_callV (lay := LAYM) (σ2 := ρM.2) (ci := 12) (q := (RX12, TX12, 36)) C0 hK hSf dL_law_1345 mk_L_159 lm_0 rfl rfl rfl (Nat.le_of_ble_eq_true rfl) (by decide) (by decide) (tmX12_sheets hfM) hPM hDM hS hl.1 (fun H1 locs1 hP1 hD1 hk1 hS1 => ?_)
  have hPC := lw_keep (fun i j hi hj => (hsp j i hj hi).symm) hPC hk1
  clear hS hPM
  have hPM := hP1
  have hS := hS1
  have hDM := hD1
  clear hP1 hS1 hk1 hD1
  generalize H1 = H at hPC hPM hS ⊢
  generalize locs1 = locs at hS ⊢
  refine lv_icmp_eq (tgt := 1376) (x := Int32.ofInt ρC.1) (y := Int32.ofInt ρM.1) hx hb dL_law_1348 (by decide) (fun _ => ?_) (fun q => absurd ((pm_eq _ _).mpr hwr) q)
  exact next _ _ ρC.2 ρM.2 hR2 ⟨hPC, hPM, hDC, hDM, hsp⟩ hS
set_option maxHeartbeats 4000000 in
set_option maxRecDepth 100000 in
theorem lc_count {p : Program} {l : Launch} {e : Env} {s : State} {m : MethodId} {below : List Frame} {meth : Method} {c : Code} {H : Heap} {locs : List Loc} {b L i : Nat} {xs : Nat → Int32} {Q : State → Prop} {ls : Array Slot} {k : pm_K} {adC adM : Nat → Nat} {σC σM : pm_M} {Rl : pm_M → pm_M → Prop} (hsp1 : sp_count Rl) (C0 : lw_At p s m meth c b L xs) (hK : va_K k.1 vwCl (pm_tys k) s) (hSf : pm_Sf k (fun q => s.heap.size ≤ q) s s.heap) (hL : L ≤ 3072) (hi : i + 6 ≤ L) (hRl : Rl σC σM) (hW : lw_Wd k adC adM (fun q => s.heap.size ≤ q) σC σM H) (hS : va_S (fun q => s.heap.size ≤ q) s.heap H locs) (hl : lv_has ls 4 [(0, .ref b), (1, .ref (adC 0)), (2, .ref (adM 0)), (3, .int (nI i))])
    (next : ∀ (H1 : Heap) (locs1 : List Loc) (τC τM : pm_M), Rl τC τM → lw_Wd k adC adM (fun q => s.heap.size ≤ q) τC τM H1 → va_S (fun q => s.heap.size ≤ q) s.heap H1 locs1 → W p l e room_1 s m #[Value.ref b] below meth c H1 locs1 600000 7302249 Q (F0 m 1376 ls [])) : W p l e room_1 s m #[Value.ref b] below meth c H locs 600000 7302249 Q (F0 m 1353 ls []) := by
  obtain ⟨hPC, hPM, hDC, hDM, hsp⟩ := hW
  obtain ⟨hx, hb, hr, hml, hown, hts, hX, hbl, hlocks, hgv⟩ := id C0
  obtain ⟨x1, hx1⟩ : ∃ y, y = xs (i + 1) := ⟨_, rfl⟩
  obtain ⟨ρC, ρM, hfC, hfM, hwr⟩ := hsp1 x1 σC σM hRl
  refine lv_aload_n hx hb dL_law_1353 rfl (lv_at hl 1 rfl) ?_
  refine lw_ld (j := 1) C0 hL hi hS hl dL_law_1354 dL_law_1355 dL_law_1356 dL_law_1357 dL_law_1358 (by decide) (by decide) ?_
  rw [← hx1]
  refine W.eq (g2 := F0 m 1359 ls (([pv_i x1.toInt].map (pm_cv adC k.2.2.2)).reverse ++ .ref (adC 0) :: [])) (by simp only [List.map_cons, List.map_nil, List.reverse_cons, List.reverse_nil, List.nil_append, List.cons_append, pm_cv, Int32.ofInt_toInt] <;> rfl) ?_
  refine lw_callV (lay := LAYC) (σ2 := σC) (ci := 11) (q := (RX11, TX11, 11)) C0 hK hSf dL_law_1359 mk_L_160 lc_0 rfl rfl rfl (Nat.le_of_ble_eq_true rfl) (by decide) (by decide) (tmX11_count hfC) hPC hDC hS hl.1 (fun H1 locs1 hP1 hD1 hk1 hS1 => ?_)
  have hPM := lw_keep hsp hPM hk1
  clear hS hPC
  have hPC := hP1
  have hS := hS1
  clear hP1 hS1 hk1
  generalize H1 = H at hPC hPM hS ⊢
  generalize locs1 = locs at hS ⊢
  refine lv_aload_n hx hb dL_law_1362 rfl (lv_at hl 2 rfl) ?_
  refine lw_ld (j := 1) C0 hL hi hS hl dL_law_1363 dL_law_1364 dL_law_1365 dL_law_1366 dL_law_1367 (by decide) (by decide) ?_
  rw [← hx1]
  refine W.eq (g2 := F0 m 1368 ls (([pv_i x1.toInt].map (pm_cv adM k.2.2.2)).reverse ++ .ref (adM 0) :: [.int (Int32.ofInt ρC)])) (by simp only [List.map_cons, List.map_nil, List.reverse_cons, List.reverse_nil, List.nil_append, List.cons_append, pm_cv, Int32.ofInt_toInt] <;> rfl) ?_
  refine lw_callV (lay := LAYM) (σ2 := σM) (ci := 12) (q := (RX12, TX12, 36)) C0 hK hSf dL_law_1368 mk_L_163 lm_0 rfl rfl rfl (Nat.le_of_ble_eq_true rfl) (by decide) (by decide) (tmX12_count hfM) hPM hDM hS hl.1 (fun H1 locs1 hP1 hD1 hk1 hS1 => ?_)
  have hPC := lw_keep (fun i j hi hj => (hsp j i hj hi).symm) hPC hk1
  clear hS hPM
  have hPM := hP1
  have hS := hS1
  clear hP1 hS1 hk1
  generalize H1 = H at hPC hPM hS ⊢
  generalize locs1 = locs at hS ⊢
  refine lv_icmp_eq (tgt := 1376) (x := Int32.ofInt ρC) (y := Int32.ofInt ρM) hx hb dL_law_1371 (by decide) (fun _ => ?_) (fun q => absurd ((pm_eq _ _).mpr hwr) q)
  exact next _ _ σC σM hRl ⟨hPC, hPM, hDC, hDM, hsp⟩ hS
