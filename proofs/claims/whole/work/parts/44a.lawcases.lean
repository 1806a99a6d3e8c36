set_option maxHeartbeats 4000000 in
set_option maxRecDepth 100000 in
theorem lc_day {p : Program} {l : Launch} {e : Env} {s : State} {m : MethodId} {below : List Frame} {meth : Method} {c : Code} {H : Heap} {locs : List Loc} {b L i : Nat} {xs : Nat → Int32} {Q : State → Prop} {ls : Array Slot} {k : pm_K} {adC adM : Nat → Nat} {σC σM : pm_M} {Rl : pm_M → pm_M → Prop} (hsp1 : sp_day Rl) (C0 : lw_At p s m meth c b L xs) (hK : va_K k.1 vwCl (pm_tys k) s) (hSf : pm_Sf k (fun q => s.heap.size ≤ q) s s.heap) (hL : L ≤ 3072) (hi : i + 6 ≤ L) (hRl : Rl σC σM) (hW : lw_Wd k adC adM (fun q => s.heap.size ≤ q) σC σM H) (hS : va_S (fun q => s.heap.size ≤ q) s.heap H locs) (hl : lv_has ls 4 [(0, .ref b), (1, .ref (adC 0)), (2, .ref (adM 0)), (3, .int (nI i))])
    (next : ∀ (H1 : Heap) (locs1 : List Loc) (τC τM : pm_M), Rl τC τM → lw_Wd k adC adM (fun q => s.heap.size ≤ q) τC τM H1 → va_S (fun q => s.heap.size ≤ q) s.heap H1 locs1 → W p l e room_1 s m #[Value.ref b] below meth c H1 locs1 600000 7302249 Q (F0 m 1376 ls [])) : W p l e room_1 s m #[Value.ref b] below meth c H locs 600000 7302249 Q (F0 m 192 ls []) := by
  obtain ⟨hPC, hPM, hDC, hDM, hsp⟩ := hW
  obtain ⟨hx, hb, hr, hml, hown, hts, hX, hbl, hlocks, hgv⟩ := id C0
  obtain ⟨x1, hx1⟩ : ∃ y, y = xs (i + 1) := ⟨_, rfl⟩
  obtain ⟨x2, hx2⟩ : ∃ y, y = xs (i + 2) := ⟨_, rfl⟩
  obtain ⟨x3, hx3⟩ : ∃ y, y = xs (i + 3) := ⟨_, rfl⟩
  obtain ⟨ρC, ρM, hfC, hfM, hwr, hR2⟩ := hsp1 x1 x2 x3 σC σM hRl
  refine lv_aload_n hx hb dL_law_192 rfl (lv_at hl 1 rfl) ?_
  refine lw_ld (j := 1) C0 hL hi hS hl dL_law_193 dL_law_194 dL_law_195 dL_law_196 dL_law_197 (by decide) (by decide) ?_
  rw [← hx1]
  refine lw_ld (j := 2) C0 hL hi hS hl dL_law_198 dL_law_199 dL_law_200 dL_law_201 dL_law_202 (by decide) (by decide) ?_
  rw [← hx2]
  refine lw_ld (j := 3) C0 hL hi hS hl dL_law_203 dL_law_204 dL_law_205 dL_law_206 dL_law_207 (by decide) (by decide) ?_
  rw [← hx3]
  refine W.eq (g2 := F0 m 208 ls (([pv_i x1.toInt, pv_i x2.toInt, pv_i x3.toInt].map (pm_cv adC k.2.2.2)).reverse ++ .ref (adC 0) :: [])) (by simp only [List.map_cons, List.map_nil, List.reverse_cons, List.reverse_nil, List.nil_append, List.cons_append, pm_cv, Int32.ofInt_toInt] <;> rfl) ?_
  refine lw_callV (lay := LAYC) (σ2 := ρC.2) (ci := 11) (q := (RX11, TX11, 11)) C0 hK hSf dL_law_208 mk_L_13 lc_0 rfl rfl rfl (Nat.le_of_ble_eq_true rfl) (by decide) (by decide) (tmX11_day hfC) hPC hDC hS hl.1 (fun H1 locs1 hP1 hD1 hk1 hS1 => ?_)
  have hPM := lw_keep hsp hPM hk1
  clear hS hPC
  have hPC := hP1
  have hS := hS1
  have hDC := hD1
  clear hP1 hS1 hk1 hD1
  generalize H1 = H at hPC hPM hS ⊢
  generalize locs1 = locs at hS ⊢
  refine lv_aload_n hx hb dL_law_211 rfl (lv_at hl 2 rfl) ?_
  refine lw_ld (j := 1) C0 hL hi hS hl dL_law_212 dL_law_213 dL_law_214 dL_law_215 dL_law_216 (by decide) (by decide) ?_
  rw [← hx1]
  refine lw_ld (j := 2) C0 hL hi hS hl dL_law_217 dL_law_218 dL_law_219 dL_law_220 dL_law_221 (by decide) (by decide) ?_
  rw [← hx2]
  refine lw_ld (j := 3) C0 hL hi hS hl dL_law_222 dL_law_223 dL_law_224 dL_law_225 dL_law_226 (by decide) (by decide) ?_
  rw [← hx3]
  refine W.eq (g2 := F0 m 227 ls (([pv_i x1.toInt, pv_i x2.toInt, pv_i x3.toInt].map (pm_cv adM k.2.2.2)).reverse ++ .ref (adM 0) :: [.int (Int32.ofInt ρC.1)])) (by simp only [List.map_cons, List.map_nil, List.reverse_cons, List.reverse_nil, List.nil_append, List.cons_append, pm_cv, Int32.ofInt_toInt] <;> rfl) ?_
  refine lw_callV (lay := LAYM) (σ2 := ρM.2) (ci := 12) (q := (RX12, TX12, 36)) C0 hK hSf dL_law_227 mk_L_17 lm_0 rfl rfl rfl (Nat.le_of_ble_eq_true rfl) (by decide) (by decide) (tmX12_day hfM) hPM hDM hS hl.1 (fun H1 locs1 hP1 hD1 hk1 hS1 => ?_)
  have hPC := lw_keep (fun i j hi hj => (hsp j i hj hi).symm) hPC hk1
  clear hS hPM
  have hPM := hP1
  have hS := hS1
  have hDM := hD1
  clear hP1 hS1 hk1 hD1
  generalize H1 = H at hPC hPM hS ⊢
  generalize locs1 = locs at hS ⊢
  refine lv_icmp_eq (tgt := 1376) (x := Int32.ofInt ρC.1) (y := Int32.ofInt ρM.1) hx hb dL_law_230 (by decide) (fun _ => ?_) (fun q => absurd ((pm_eq _ _).mpr hwr) q)
  exact next _ _ ρC.2 ρM.2 hR2 ⟨hPC, hPM, hDC, hDM, hsp⟩ hS
set_option maxHeartbeats 4000000 in
set_option maxRecDepth 100000 in
theorem lc_dayOf {p : Program} {l : Launch} {e : Env} {s : State} {m : MethodId} {below : List Frame} {meth : Method} {c : Code} {H : Heap} {locs : List Loc} {b L i : Nat} {xs : Nat → Int32} {Q : State → Prop} {ls : Array Slot} {k : pm_K} {adC adM : Nat → Nat} {σC σM : pm_M} {Rl : pm_M → pm_M → Prop} (hsp1 : sp_dayOf Rl) (C0 : lw_At p s m meth c b L xs) (hK : va_K k.1 vwCl (pm_tys k) s) (hSf : pm_Sf k (fun q => s.heap.size ≤ q) s s.heap) (hL : L ≤ 3072) (hi : i + 6 ≤ L) (hRl : Rl σC σM) (hW : lw_Wd k adC adM (fun q => s.heap.size ≤ q) σC σM H) (hS : va_S (fun q => s.heap.size ≤ q) s.heap H locs) (hl : lv_has ls 4 [(0, .ref b), (1, .ref (adC 0)), (2, .ref (adM 0)), (3, .int (nI i))])
    (next : ∀ (H1 : Heap) (locs1 : List Loc) (τC τM : pm_M), Rl τC τM → lw_Wd k adC adM (fun q => s.heap.size ≤ q) τC τM H1 → va_S (fun q => s.heap.size ≤ q) s.heap H1 locs1 → W p l e room_1 s m #[Value.ref b] below meth c H1 locs1 600000 7302249 Q (F0 m 1376 ls [])) : W p l e room_1 s m #[Value.ref b] below meth c H locs 600000 7302249 Q (F0 m 235 ls []) := by
  obtain ⟨hPC, hPM, hDC, hDM, hsp⟩ := hW
  obtain ⟨hx, hb, hr, hml, hown, hts, hX, hbl, hlocks, hgv⟩ := id C0
  obtain ⟨x1, hx1⟩ : ∃ y, y = xs (i + 1) := ⟨_, rfl⟩
  obtain ⟨x2, hx2⟩ : ∃ y, y = xs (i + 2) := ⟨_, rfl⟩
  obtain ⟨ρC, ρM, hfC, hfM, hwr, hR2⟩ := hsp1 x1 x2 σC σM hRl
  refine lv_aload_n hx hb dL_law_235 rfl (lv_at hl 1 rfl) ?_
  refine lw_ld (j := 1) C0 hL hi hS hl dL_law_236 dL_law_237 dL_law_238 dL_law_239 dL_law_240 (by decide) (by decide) ?_
  rw [← hx1]
  refine lw_ld (j := 2) C0 hL hi hS hl dL_law_241 dL_law_242 dL_law_243 dL_law_244 dL_law_245 (by decide) (by decide) ?_
  rw [← hx2]
  refine W.eq (g2 := F0 m 246 ls (([pv_i x1.toInt, pv_i x2.toInt].map (pm_cv adC k.2.2.2)).reverse ++ .ref (adC 0) :: [])) (by simp only [List.map_cons, List.map_nil, List.reverse_cons, List.reverse_nil, List.nil_append, List.cons_append, pm_cv, Int32.ofInt_toInt] <;> rfl) ?_
  refine lw_callV (lay := LAYC) (σ2 := ρC.2) (ci := 11) (q := (RX11, TX11, 11)) C0 hK hSf dL_law_246 mk_L_18 lc_0 rfl rfl rfl (Nat.le_of_ble_eq_true rfl) (by decide) (by decide) (tmX11_dayOf hfC) hPC hDC hS hl.1 (fun H1 locs1 hP1 hD1 hk1 hS1 => ?_)
  have hPM := lw_keep hsp hPM hk1
  clear hS hPC
  have hPC := hP1
  have hS := hS1
  have hDC := hD1
  clear hP1 hS1 hk1 hD1
  generalize H1 = H at hPC hPM hS ⊢
  generalize locs1 = locs at hS ⊢
  refine lv_aload_n hx hb dL_law_249 rfl (lv_at hl 2 rfl) ?_
  refine lw_ld (j := 1) C0 hL hi hS hl dL_law_250 dL_law_251 dL_law_252 dL_law_253 dL_law_254 (by decide) (by decide) ?_
  rw [← hx1]
  refine lw_ld (j := 2) C0 hL hi hS hl dL_law_255 dL_law_256 dL_law_257 dL_law_258 dL_law_259 (by decide) (by decide) ?_
  rw [← hx2]
  refine W.eq (g2 := F0 m 260 ls (([pv_i x1.toInt, pv_i x2.toInt].map (pm_cv adM k.2.2.2)).reverse ++ .ref (adM 0) :: [.int (Int32.ofInt ρC.1)])) (by simp only [List.map_cons, List.map_nil, List.reverse_cons, List.reverse_nil, List.nil_append, List.cons_append, pm_cv, Int32.ofInt_toInt] <;> rfl) ?_
  refine lw_callV (lay := LAYM) (σ2 := ρM.2) (ci := 12) (q := (RX12, TX12, 36)) C0 hK hSf dL_law_260 mk_L_22 lm_0 rfl rfl rfl (Nat.le_of_ble_eq_true rfl) (by decide) (by decide) (tmX12_dayOf hfM) hPM hDM hS hl.1 (fun H1 locs1 hP1 hD1 hk1 hS1 => ?_)
  have hPC := lw_keep (fun i j hi hj => (hsp j i hj hi).symm) hPC hk1
  clear hS hPM
  have hPM := hP1
  have hS := hS1
  have hDM := hD1
  clear hP1 hS1 hk1 hD1
  generalize H1 = H at hPC hPM hS ⊢
  generalize locs1 = locs at hS ⊢
  refine lv_icmp_eq (tgt := 1376) (x := Int32.ofInt ρC.1) (y := Int32.ofInt ρM.1) hx hb dL_law_263 (by decide) (fun _ => ?_) (fun q => absurd ((pm_eq _ _).mpr hwr) q)
  exact next _ _ ρC.2 ρM.2 hR2 ⟨hPC, hPM, hDC, hDM, hsp⟩ hS
set_option maxHeartbeats 4000000 in
set_option maxRecDepth 100000 in
theorem lc_kind {p : Program} {l : Launch} {e : Env} {s : State} {m : MethodId} {below : List Frame} {meth : Method} {c : Code} {H : Heap} {locs : List Loc} {b L i : Nat} {xs : Nat → Int32} {Q : State → Prop} {ls : Array Slot} {k : pm_K} {adC adM : Nat → Nat} {σC σM : pm_M} {Rl : pm_M → pm_M → Prop} (hsp1 : sp_kind Rl) (C0 : lw_At p s m meth c b L xs) (hK : va_K k.1 vwCl (pm_tys k) s) (hSf : pm_Sf k (fun q => s.heap.size ≤ q) s s.heap) (hL : L ≤ 3072) (hi : i + 6 ≤ L) (hRl : Rl σC σM) (hW : lw_Wd k adC adM (fun q => s.heap.size ≤ q) σC σM H) (hS : va_S (fun q => s.heap.size ≤ q) s.heap H locs) (hl : lv_has ls 4 [(0, .ref b), (1, .ref (adC 0)), (2, .ref (adM 0)), (3, .int (nI i))])
    (next : ∀ (H1 : Heap) (locs1 : List Loc) (τC τM : pm_M), Rl τC τM → lw_Wd k adC adM (fun q => s.heap.size ≤ q) τC τM H1 → va_S (fun q => s.heap.size ≤ q) s.heap H1 locs1 → W p l e room_1 s m #[Value.ref b] below meth c H1 locs1 600000 7302249 Q (F0 m 1376 ls [])) : W p l e room_1 s m #[Value.ref b] below meth c H locs 600000 7302249 Q (F0 m 268 ls []) := by
  obtain ⟨hPC, hPM, hDC, hDM, hsp⟩ := hW
  obtain ⟨hx, hb, hr, hml, hown, hts, hX, hbl, hlocks, hgv⟩ := id C0
  obtain ⟨x1, hx1⟩ : ∃ y, y = xs (i + 1) := ⟨_, rfl⟩
  obtain ⟨x2, hx2⟩ : ∃ y, y = xs (i + 2) := ⟨_, rfl⟩
  obtain ⟨x3, hx3⟩ : ∃ y, y = xs (i + 3) := ⟨_, rfl⟩
  obtain ⟨x4, hx4⟩ : ∃ y, y = xs (i + 4) := ⟨_, rfl⟩
  obtain ⟨ρC, ρM, hfC, hfM, hwr, hR2⟩ := hsp1 x1 x2 x3 x4 σC σM hRl
  refine lv_aload_n hx hb dL_law_268 rfl (lv_at hl 1 rfl) ?_
  refine lw_ld (j := 1) C0 hL hi hS hl dL_law_269 dL_law_270 dL_law_271 dL_law_272 dL_law_273 (by decide) (by decide) ?_
  rw [← hx1]
  refine lw_ld (j := 2) C0 hL hi hS hl dL_law_274 dL_law_275 dL_law_276 dL_law_277 dL_law_278 (by decide) (by decide) ?_
  rw [← hx2]
  refine lw_ld (j := 3) C0 hL hi hS hl dL_law_279 dL_law_280 dL_law_281 dL_law_282 dL_law_283 (by decide) (by decide) ?_
  rw [← hx3]
  refine lw_ld (j := 4) C0 hL hi hS hl dL_law_284 dL_law_285 dL_law_286 dL_law_287 dL_law_288 (by decide) (by decide) ?_
  rw [← hx4]
  refine W.eq (g2 := F0 m 289 ls (([pv_i x1.toInt, pv_i x2.toInt, pv_i x3.toInt, pv_i x4.toInt].map (pm_cv adC k.2.2.2)).reverse ++ .ref (adC 0) :: [])) (by simp only [List.map_cons, List.map_nil, List.reverse_cons, List.reverse_nil, List.nil_append, List.cons_append, pm_cv, Int32.ofInt_toInt] <;> rfl) ?_
  refine lw_callV (lay := LAYC) (σ2 := ρC.2) (ci := 11) (q := (RX11, TX11, 11)) C0 hK hSf dL_law_289 mk_L_23 lc_0 rfl rfl rfl (Nat.le_of_ble_eq_true rfl) (by decide) (by decide) (tmX11_kind hfC) hPC hDC hS hl.1 (fun H1 locs1 hP1 hD1 hk1 hS1 => ?_)
  have hPM := lw_keep hsp hPM hk1
  clear hS hPC
  have hPC := hP1
  have hS := hS1
  have hDC := hD1
  clear hP1 hS1 hk1 hD1
  generalize H1 = H at hPC hPM hS ⊢
  generalize locs1 = locs at hS ⊢
  refine lv_aload_n hx hb dL_law_292 rfl (lv_at hl 2 rfl) ?_
  refine lw_ld (j := 1) C0 hL hi hS hl dL_law_293 dL_law_294 dL_law_295 dL_law_296 dL_law_297 (by decide) (by decide) ?_
  rw [← hx1]
  refine lw_ld (j := 2) C0 hL hi hS hl dL_law_298 dL_law_299 dL_law_300 dL_law_301 dL_law_302 (by decide) (by decide) ?_
  rw [← hx2]
  refine lw_ld (j := 3) C0 hL hi hS hl dL_law_303 dL_law_304 dL_law_305 dL_law_306 dL_law_307 (by decide) (by decide) ?_
  rw [← hx3]
  refine lw_ld (j := 4) C0 hL hi hS hl dL_law_308 dL_law_309 dL_law_310 dL_law_311 dL_law_312 (by decide) (by decide) ?_
  rw [← hx4]
  refine W.eq (g2 := F0 m 313 ls (([pv_i x1.toInt, pv_i x2.toInt, pv_i x3.toInt, pv_i x4.toInt].map (pm_cv adM k.2.2.2)).reverse ++ .ref (adM 0) :: [.int (Int32.ofInt ρC.1)])) (by simp only [List.map_cons, List.map_nil, List.reverse_cons, List.reverse_nil, List.nil_append, List.cons_append, pm_cv, Int32.ofInt_toInt] <;> rfl) ?_
  refine lw_callV (lay := LAYM) (σ2 := ρM.2) (ci := 12) (q := (RX12, TX12, 36)) C0 hK hSf dL_law_313 mk_L_27 lm_0 rfl rfl rfl (Nat.le_of_ble_eq_true rfl) (by decide) (by decide) (tmX12_kind hfM) hPM hDM hS hl.1 (fun H1 locs1 hP1 hD1 hk1 hS1 => ?_)
  have hPC := lw_keep (fun i j hi hj => (hsp j i hj hi).symm) hPC hk1
  clear hS hPM
  have hPM := hP1
  have hS := hS1
  have hDM := hD1
  clear hP1 hS1 hk1 hD1
  generalize H1 = H at hPC hPM hS ⊢
  generalize locs1 = locs at hS ⊢
  refine lv_icmp_eq (tgt := 1376) (x := Int32.ofInt ρC.1) (y := Int32.ofInt ρM.1) hx hb dL_law_316 (by decide) (fun _ => ?_) (fun q => absurd ((pm_eq _ _).mpr hwr) q)
  exact next _ _ ρC.2 ρM.2 hR2 ⟨hPC, hPM, hDC, hDM, hsp⟩ hS
set_option maxHeartbeats 4000000 in
set_option maxRecDepth 100000 in
theorem lc_rags {p : Program} {l : Launch} {e : Env} {s : State} {m : MethodId} {below : List Frame} {meth : Method} {c : Code} {H : Heap} {locs : List Loc} {b L i : Nat} {xs : Nat → Int32} {Q : State → Prop} {ls : Array Slot} {k : pm_K} {adC adM : Nat → Nat} {σC σM : pm_M} {Rl : pm_M → pm_M → Prop} (hsp1 : sp_rags Rl) (C0 : lw_At p s m meth c b L xs) (hK : va_K k.1 vwCl (pm_tys k) s) (hSf : pm_Sf k (fun q => s.heap.size ≤ q) s s.heap) (hL : L ≤ 3072) (hi : i + 6 ≤ L) (hRl : Rl σC σM) (hW : lw_Wd k adC adM (fun q => s.heap.size ≤ q) σC σM H) (hS : va_S (fun q => s.heap.size ≤ q) s.heap H locs) (hl : lv_has ls 4 [(0, .ref b), (1, .ref (adC 0)), (2, .ref (adM 0)), (3, .int (nI i))])
    (next : ∀ (H1 : Heap) (locs1 : List Loc) (τC τM : pm_M), Rl τC τM → lw_Wd k adC adM (fun q => s.heap.size ≤ q) τC τM H1 → va_S (fun q => s.heap.size ≤ q) s.heap H1 locs1 → W p l e room_1 s m #[Value.ref b] below meth c H1 locs1 600000 7302249 Q (F0 m 1376 ls [])) : W p l e room_1 s m #[Value.ref b] below meth c H locs 600000 7302249 Q (F0 m 321 ls []) := by
  obtain ⟨hPC, hPM, hDC, hDM, hsp⟩ := hW
  obtain ⟨hx, hb, hr, hml, hown, hts, hX, hbl, hlocks, hgv⟩ := id C0
  obtain ⟨x1, hx1⟩ : ∃ y, y = xs (i + 1) := ⟨_, rfl⟩
  obtain ⟨x2, hx2⟩ : ∃ y, y = xs (i + 2) := ⟨_, rfl⟩
  obtain ⟨ρC, ρM, hfC, hfM, hwr, hR2⟩ := hsp1 x1 x2 σC σM hRl
  refine lv_aload_n hx hb dL_law_321 rfl (lv_at hl 1 rfl) ?_
  refine lw_ld (j := 1) C0 hL hi hS hl dL_law_322 dL_law_323 dL_law_324 dL_law_325 dL_law_326 (by decide) (by decide) ?_
  rw [← hx1]
  refine lw_ld (j := 2) C0 hL hi hS hl dL_law_327 dL_law_328 dL_law_329 dL_law_330 dL_law_331 (by decide) (by decide) ?_
  rw [← hx2]
  refine W.eq (g2 := F0 m 332 ls (([pv_i x1.toInt, pv_i x2.toInt].map (pm_cv adC k.2.2.2)).reverse ++ .ref (adC 0) :: [])) (by simp only [List.map_cons, List.map_nil, List.reverse_cons, List.reverse_nil, List.nil_append, List.cons_append, pm_cv, Int32.ofInt_toInt] <;> rfl) ?_
  refine lw_callV (lay := LAYC) (σ2 := ρC.2) (ci := 11) (q := (RX11, TX11, 11)) C0 hK hSf dL_law_332 mk_L_28 lc_0 rfl rfl rfl (Nat.le_of_ble_eq_true rfl) (by decide) (by decide) (tmX11_rags hfC) hPC hDC hS hl.1 (fun H1 locs1 hP1 hD1 hk1 hS1 => ?_)
  have hPM := lw_keep hsp hPM hk1
  clear hS hPC
  have hPC := hP1
  have hS := hS1
  have hDC := hD1
  clear hP1 hS1 hk1 hD1
  generalize H1 = H at hPC hPM hS ⊢
  generalize locs1 = locs at hS ⊢
  refine lv_aload_n hx hb dL_law_335 rfl (lv_at hl 2 rfl) ?_
  refine lw_ld (j := 1) C0 hL hi hS hl dL_law_336 dL_law_337 dL_law_338 dL_law_339 dL_law_340 (by decide) (by decide) ?_
  rw [← hx1]
  refine lw_ld (j := 2) C0 hL hi hS hl dL_law_341 dL_law_342 dL_law_343 dL_law_344 dL_law_345 (by decide) (by decide) ?_
  rw [← hx2]
  refine W.eq (g2 := F0 m 346 ls (([pv_i x1.toInt, pv_i x2.toInt].map (pm_cv adM k.2.2.2)).reverse ++ .ref (adM 0) :: [.int (Int32.ofInt ρC.1)])) (by simp only [List.map_cons, List.map_nil, List.reverse_cons, List.reverse_nil, List.nil_append, List.cons_append, pm_cv, Int32.ofInt_toInt] <;> rfl) ?_
  refine lw_callV (lay := LAYM) (σ2 := ρM.2) (ci := 12) (q := (RX12, TX12, 36)) C0 hK hSf dL_law_346 mk_L_31 lm_0 rfl rfl rfl (Nat.le_of_ble_eq_true rfl) (by decide) (by decide) (tmX12_rags hfM) hPM hDM hS hl.1 (fun H1 locs1 hP1 hD1 hk1 hS1 => ?_)
  have hPC := lw_keep (fun i j hi hj => (hsp j i hj hi).symm) hPC hk1
  clear hS hPM
  have hPM := hP1
  have hS := hS1
  have hDM := hD1
  clear hP1 hS1 hk1 hD1
  generalize H1 = H at hPC hPM hS ⊢
  generalize locs1 = locs at hS ⊢
  refine lv_icmp_eq (tgt := 1376) (x := Int32.ofInt ρC.1) (y := Int32.ofInt ρM.1) hx hb dL_law_349 (by decide) (fun _ => ?_) (fun q => absurd ((pm_eq _ _).mpr hwr) q)
  exact next _ _ ρC.2 ρM.2 hR2 ⟨hPC, hPM, hDC, hDM, hsp⟩ hS
set_option maxHeartbeats 4000000 in
set_option maxRecDepth 100000 in
theorem lc_heap {p : Program} {l : Launch} {e : Env} {s : State} {m : MethodId} {below : List Frame} {meth : Method} {c : Code} {H : Heap} {locs : List Loc} {b L i : Nat} {xs : Nat → Int32} {Q : State → Prop} {ls : Array Slot} {k : pm_K} {adC adM : Nat → Nat} {σC σM : pm_M} {Rl : pm_M → pm_M → Prop} (hsp1 : sp_heap Rl) (C0 : lw_At p s m meth c b L xs) (hK : va_K k.1 vwCl (pm_tys k) s) (hSf : pm_Sf k (fun q => s.heap.size ≤ q) s s.heap) (hL : L ≤ 3072) (hi : i + 6 ≤ L) (hRl : Rl σC σM) (hW : lw_Wd k adC adM (fun q => s.heap.size ≤ q) σC σM H) (hS : va_S (fun q => s.heap.size ≤ q) s.heap H locs) (hl : lv_has ls 4 [(0, .ref b), (1, .ref (adC 0)), (2, .ref (adM 0)), (3, .int (nI i))])
    (next : ∀ (H1 : Heap) (locs1 : List Loc) (τC τM : pm_M), Rl τC τM → lw_Wd k adC adM (fun q => s.heap.size ≤ q) τC τM H1 → va_S (fun q => s.heap.size ≤ q) s.heap H1 locs1 → W p l e room_1 s m #[Value.ref b] below meth c H1 locs1 600000 7302249 Q (F0 m 1376 ls [])) : W p l e room_1 s m #[Value.ref b] below meth c H locs 600000 7302249 Q (F0 m 354 ls []) := by
  obtain ⟨hPC, hPM, hDC, hDM, hsp⟩ := hW
  obtain ⟨hx, hb, hr, hml, hown, hts, hX, hbl, hlocks, hgv⟩ := id C0
  obtain ⟨x1, hx1⟩ : ∃ y, y = xs (i + 1) := ⟨_, rfl⟩
  obtain ⟨x2, hx2⟩ : ∃ y, y = xs (i + 2) := ⟨_, rfl⟩
  obtain ⟨ρC, ρM, hfC, hfM, hwr, hR2⟩ := hsp1 x1 x2 σC σM hRl
  refine lv_aload_n hx hb dL_law_354 rfl (lv_at hl 1 rfl) ?_
  refine lw_ld (j := 1) C0 hL hi hS hl dL_law_355 dL_law_356 dL_law_357 dL_law_358 dL_law_359 (by decide) (by decide) ?_
  rw [← hx1]
  refine lw_ld (j := 2) C0 hL hi hS hl dL_law_360 dL_law_361 dL_law_362 dL_law_363 dL_law_364 (by decide) (by decide) ?_
  rw [← hx2]
  refine W.eq (g2 := F0 m 365 ls (([pv_i x1.toInt, pv_i x2.toInt].map (pm_cv adC k.2.2.2)).reverse ++ .ref (adC 0) :: [])) (by simp only [List.map_cons, List.map_nil, List.reverse_cons, List.reverse_nil, List.nil_append, List.cons_append, pm_cv, Int32.ofInt_toInt] <;> rfl) ?_
  refine lw_callV (lay := LAYC) (σ2 := ρC.2) (ci := 11) (q := (RX11, TX11, 11)) C0 hK hSf dL_law_365 mk_L_32 lc_0 rfl rfl rfl (Nat.le_of_ble_eq_true rfl) (by decide) (by decide) (tmX11_heap hfC) hPC hDC hS hl.1 (fun H1 locs1 hP1 hD1 hk1 hS1 => ?_)
  have hPM := lw_keep hsp hPM hk1
  clear hS hPC
  have hPC := hP1
  have hS := hS1
  have hDC := hD1
  clear hP1 hS1 hk1 hD1
  generalize H1 = H at hPC hPM hS ⊢
  generalize locs1 = locs at hS ⊢
  refine lv_aload_n hx hb dL_law_368 rfl (lv_at hl 2 rfl) ?_
  refine lw_ld (j := 1) C0 hL hi hS hl dL_law_369 dL_law_370 dL_law_371 dL_law_372 dL_law_373 (by decide) (by decide) ?_
  rw [← hx1]
  refine lw_ld (j := 2) C0 hL hi hS hl dL_law_374 dL_law_375 dL_law_376 dL_law_377 dL_law_378 (by decide) (by decide) ?_
  rw [← hx2]
  refine W.eq (g2 := F0 m 379 ls (([pv_i x1.toInt, pv_i x2.toInt].map (pm_cv adM k.2.2.2)).reverse ++ .ref (adM 0) :: [.int (Int32.ofInt ρC.1)])) (by simp only [List.map_cons, List.map_nil, List.reverse_cons, List.reverse_nil, List.nil_append, List.cons_append, pm_cv, Int32.ofInt_toInt] <;> rfl) ?_
  refine lw_callV (lay := LAYM) (σ2 := ρM.2) (ci := 12) (q := (RX12, TX12, 36)) C0 hK hSf dL_law_379 mk_L_35 lm_0 rfl rfl rfl (Nat.le_of_ble_eq_true rfl) (by decide) (by decide) (tmX12_heap hfM) hPM hDM hS hl.1 (fun H1 locs1 hP1 hD1 hk1 hS1 => ?_)
  have hPC := lw_keep (fun i j hi hj => (hsp j i hj hi).symm) hPC hk1
  clear hS hPM
  have hPM := hP1
  have hS := hS1
  have hDM := hD1
  clear hP1 hS1 hk1 hD1
  generalize H1 = H at hPC hPM hS ⊢
  generalize locs1 = locs at hS ⊢
  refine lv_icmp_eq (tgt := 1376) (x := Int32.ofInt ρC.1) (y := Int32.ofInt ρM.1) hx hb dL_law_382 (by decide) (fun _ => ?_) (fun q => absurd ((pm_eq _ _).mpr hwr) q)
  exact next _ _ ρC.2 ρM.2 hR2 ⟨hPC, hPM, hDC, hDM, hsp⟩ hS
set_option maxHeartbeats 4000000 in
set_option maxRecDepth 100000 in
theorem lc_load {p : Program} {l : Launch} {e : Env} {s : State} {m : MethodId} {below : List Frame} {meth : Method} {c : Code} {H : Heap} {locs : List Loc} {b L i : Nat} {xs : Nat → Int32} {Q : State → Prop} {ls : Array Slot} {k : pm_K} {adC adM : Nat → Nat} {σC σM : pm_M} {Rl : pm_M → pm_M → Prop} (hsp1 : sp_load Rl) (C0 : lw_At p s m meth c b L xs) (hK : va_K k.1 vwCl (pm_tys k) s) (hSf : pm_Sf k (fun q => s.heap.size ≤ q) s s.heap) (hL : L ≤ 3072) (hi : i + 6 ≤ L) (hRl : Rl σC σM) (hW : lw_Wd k adC adM (fun q => s.heap.size ≤ q) σC σM H) (hS : va_S (fun q => s.heap.size ≤ q) s.heap H locs) (hl : lv_has ls 4 [(0, .ref b), (1, .ref (adC 0)), (2, .ref (adM 0)), (3, .int (nI i))])
    (next : ∀ (H1 : Heap) (locs1 : List Loc) (τC τM : pm_M), Rl τC τM → lw_Wd k adC adM (fun q => s.heap.size ≤ q) τC τM H1 → va_S (fun q => s.heap.size ≤ q) s.heap H1 locs1 → W p l e room_1 s m #[Value.ref b] below meth c H1 locs1 600000 7302249 Q (F0 m 1376 ls [])) : W p l e room_1 s m #[Value.ref b] below meth c H locs 600000 7302249 Q (F0 m 387 ls []) := by
  obtain ⟨hPC, hPM, hDC, hDM, hsp⟩ := hW
  obtain ⟨hx, hb, hr, hml, hown, hts, hX, hbl, hlocks, hgv⟩ := id C0
  obtain ⟨x1, hx1⟩ : ∃ y, y = xs (i + 1) := ⟨_, rfl⟩
  obtain ⟨x2, hx2⟩ : ∃ y, y = xs (i + 2) := ⟨_, rfl⟩
  obtain ⟨x3, hx3⟩ : ∃ y, y = xs (i + 3) := ⟨_, rfl⟩
  obtain ⟨ρC, ρM, hfC, hfM, hwr, hR2⟩ := hsp1 x1 x2 x3 σC σM hRl
  refine lv_aload_n hx hb dL_law_387 rfl (lv_at hl 1 rfl) ?_
  refine lw_ld (j := 1) C0 hL hi hS hl dL_law_388 dL_law_389 dL_law_390 dL_law_391 dL_law_392 (by decide) (by decide) ?_
  rw [← hx1]
  refine lw_ld (j := 2) C0 hL hi hS hl dL_law_393 dL_law_394 dL_law_395 dL_law_396 dL_law_397 (by decide) (by decide) ?_
  rw [← hx2]
  refine lw_ld (j := 3) C0 hL hi hS hl dL_law_398 dL_law_399 dL_law_400 dL_law_401 dL_law_402 (by decide) (by decide) ?_
  rw [← hx3]
  refine W.eq (g2 := F0 m 403 ls (([pv_i x1.toInt, pv_i x2.toInt, pv_i x3.toInt].map (pm_cv adC k.2.2.2)).reverse ++ .ref (adC 0) :: [])) (by simp only [List.map_cons, List.map_nil, List.reverse_cons, List.reverse_nil, List.nil_append, List.cons_append, pm_cv, Int32.ofInt_toInt] <;> rfl) ?_
  refine lw_callV (lay := LAYC) (σ2 := ρC.2) (ci := 11) (q := (RX11, TX11, 11)) C0 hK hSf dL_law_403 mk_L_36 lc_0 rfl rfl rfl (Nat.le_of_ble_eq_true rfl) (by decide) (by decide) (tmX11_load hfC) hPC hDC hS hl.1 (fun H1 locs1 hP1 hD1 hk1 hS1 => ?_)
  have hPM := lw_keep hsp hPM hk1
  clear hS hPC
  have hPC := hP1
  have hS := hS1
  have hDC := hD1
  clear hP1 hS1 hk1 hD1
  generalize H1 = H at hPC hPM hS ⊢
  generalize locs1 = locs at hS ⊢
  refine lv_aload_n hx hb dL_law_406 rfl (lv_at hl 2 rfl) ?_
  refine lw_ld (j := 1) C0 hL hi hS hl dL_law_407 dL_law_408 dL_law_409 dL_law_410 dL_law_411 (by decide) (by decide) ?_
  rw [← hx1]
  refine lw_ld (j := 2) C0 hL hi hS hl dL_law_412 dL_law_413 dL_law_414 dL_law_415 dL_law_416 (by decide) (by decide) ?_
  rw [← hx2]
  refine lw_ld (j := 3) C0 hL hi hS hl dL_law_417 dL_law_418 dL_law_419 dL_law_420 dL_law_421 (by decide) (by decide) ?_
  rw [← hx3]
  refine W.eq (g2 := F0 m 422 ls (([pv_i x1.toInt, pv_i x2.toInt, pv_i x3.toInt].map (pm_cv adM k.2.2.2)).reverse ++ .ref (adM 0) :: [.int (Int32.ofInt ρC.1)])) (by simp only [List.map_cons, List.map_nil, List.reverse_cons, List.reverse_nil, List.nil_append, List.cons_append, pm_cv, Int32.ofInt_toInt] <;> rfl) ?_
  refine lw_callV (lay := LAYM) (σ2 := ρM.2) (ci := 12) (q := (RX12, TX12, 36)) C0 hK hSf dL_law_422 mk_L_39 lm_0 rfl rfl rfl (Nat.le_of_ble_eq_true rfl) (by decide) (by decide) (tmX12_load hfM) hPM hDM hS hl.1 (fun H1 locs1 hP1 hD1 hk1 hS1 => ?_)
  have hPC := lw_keep (fun i j hi hj => (hsp j i hj hi).symm) hPC hk1
  clear hS hPM
  have hPM := hP1
  have hS := hS1
  have hDM := hD1
  clear hP1 hS1 hk1 hD1
  generalize H1 = H at hPC hPM hS ⊢
  generalize locs1 = locs at hS ⊢
  refine lv_icmp_eq (tgt := 1376) (x := Int32.ofInt ρC.1) (y := Int32.ofInt ρM.1) hx hb dL_law_425 (by decide) (fun _ => ?_) (fun q => absurd ((pm_eq _ _).mpr hwr) q)
  exact next _ _ ρC.2 ρM.2 hR2 ⟨hPC, hPM, hDC, hDM, hsp⟩ hS
set_option maxHeartbeats 4000000 in
set_option maxRecDepth 100000 in
theorem lc_pair {p : Program} {l : Launch} {e : Env} {s : State} {m : MethodId} {below : List Frame} {meth : Method} {c : Code} {H : Heap} {locs : List Loc} {b L i : Nat} {xs : Nat → Int32} {Q : State → Prop} {ls : Array Slot} {k : pm_K} {adC adM : Nat → Nat} {σC σM : pm_M} {Rl : pm_M → pm_M → Prop} (hsp1 : sp_pair Rl) (C0 : lw_At p s m meth c b L xs) (hK : va_K k.1 vwCl (pm_tys k) s) (hSf : pm_Sf k (fun q => s.heap.size ≤ q) s s.heap) (hL : L ≤ 3072) (hi : i + 6 ≤ L) (hRl : Rl σC σM) (hW : lw_Wd k adC adM (fun q => s.heap.size ≤ q) σC σM H) (hS : va_S (fun q => s.heap.size ≤ q) s.heap H locs) (hl : lv_has ls 4 [(0, .ref b), (1, .ref (adC 0)), (2, .ref (adM 0)), (3, .int (nI i))])
    (next : ∀ (H1 : Heap) (locs1 : List Loc) (τC τM : pm_M), Rl τC τM → lw_Wd k adC adM (fun q => s.heap.size ≤ q) τC τM H1 → va_S (fun q => s.heap.size ≤ q) s.heap H1 locs1 → W p l e room_1 s m #[Value.ref b] below meth c H1 locs1 600000 7302249 Q (F0 m 1376 ls [])) : W p l e room_1 s m #[Value.ref b] below meth c H locs 600000 7302249 Q (F0 m 430 ls []) := by
  obtain ⟨hPC, hPM, hDC, hDM, hsp⟩ := hW
  obtain ⟨hx, hb, hr, hml, hown, hts, hX, hbl, hlocks, hgv⟩ := id C0
  obtain ⟨x1, hx1⟩ : ∃ y, y = xs (i + 1) := ⟨_, rfl⟩
  obtain ⟨ρC, ρM, hfC, hfM, hwr, hR2⟩ := hsp1 x1 σC σM hRl
  refine lv_aload_n hx hb dL_law_430 rfl (lv_at hl 1 rfl) ?_
  refine lw_ld (j := 1) C0 hL hi hS hl dL_law_431 dL_law_432 dL_law_433 dL_law_434 dL_law_435 (by decide) (by decide) ?_
  rw [← hx1]
  refine W.eq (g2 := F0 m 436 ls (([pv_i x1.toInt].map (pm_cv adC k.2.2.2)).reverse ++ .ref (adC 0) :: [])) (by simp only [List.map_cons, List.map_nil, List.reverse_cons, List.reverse_nil, List.nil_append, List.cons_append, pm_cv, Int32.ofInt_toInt] <;> rfl) ?_
  refine lw_callV (lay := LAYC) (σ2 := ρC.2) (ci := 11) (q := (RX11, TX11, 11)) C0 hK hSf dL_law_436 mk_L_40 lc_0 rfl rfl rfl (Nat.le_of_ble_eq_true rfl) (by decide) (by decide) (tmX11_pair hfC) hPC hDC hS hl.1 (fun H1 locs1 hP1 hD1 hk1 hS1 => ?_)
  have hPM := lw_keep hsp hPM hk1
  clear hS hPC
  have hPC := hP1
  have hS := hS1
  have hDC := hD1
  clear hP1 hS1 hk1 hD1
  generalize H1 = H at hPC hPM hS ⊢
  generalize locs1 = locs at hS ⊢
  refine lv_aload_n hx hb dL_law_439 rfl (lv_at hl 2 rfl) ?_
  refine lw_ld (j := 1) C0 hL hi hS hl dL_law_440 dL_law_441 dL_law_442 dL_law_443 dL_law_444 (by decide) (by decide) ?_
  rw [← hx1]
  refine W.eq (g2 := F0 m 445 ls (([pv_i x1.toInt].map (pm_cv adM k.2.2.2)).reverse ++ .ref (adM 0) :: [.int (Int32.ofInt ρC.1)])) (by simp only [List.map_cons, List.map_nil, List.reverse_cons, List.reverse_nil, List.nil_append, List.cons_append, pm_cv, Int32.ofInt_toInt] <;> rfl) ?_
  refine lw_callV (lay := LAYM) (σ2 := ρM.2) (ci := 12) (q := (RX12, TX12, 36)) C0 hK hSf dL_law_445 mk_L_44 lm_0 rfl rfl rfl (Nat.le_of_ble_eq_true rfl) (by decide) (by decide) (tmX12_pair hfM) hPM hDM hS hl.1 (fun H1 locs1 hP1 hD1 hk1 hS1 => ?_)
  have hPC := lw_keep (fun i j hi hj => (hsp j i hj hi).symm) hPC hk1
  clear hS hPM
  have hPM := hP1
  have hS := hS1
  have hDM := hD1
  clear hP1 hS1 hk1 hD1
  generalize H1 = H at hPC hPM hS ⊢
  generalize locs1 = locs at hS ⊢
  refine lv_icmp_eq (tgt := 1376) (x := Int32.ofInt ρC.1) (y := Int32.ofInt ρM.1) hx hb dL_law_448 (by decide) (fun _ => ?_) (fun q => absurd ((pm_eq _ _).mpr hwr) q)
  exact next _ _ ρC.2 ρM.2 hR2 ⟨hPC, hPM, hDC, hDM, hsp⟩ hS
set_option maxHeartbeats 4000000 in
set_option maxRecDepth 100000 in
theorem lc_wire {p : Program} {l : Launch} {e : Env} {s : State} {m : MethodId} {below : List Frame} {meth : Method} {c : Code} {H : Heap} {locs : List Loc} {b L i : Nat} {xs : Nat → Int32} {Q : State → Prop} {ls : Array Slot} {k : pm_K} {adC adM : Nat → Nat} {σC σM : pm_M} {Rl : pm_M → pm_M → Prop} (hsp1 : sp_wire Rl) (C0 : lw_At p s m meth c b L xs) (hK : va_K k.1 vwCl (pm_tys k) s) (hSf : pm_Sf k (fun q => s.heap.size ≤ q) s s.heap) (hL : L ≤ 3072) (hi : i + 6 ≤ L) (hRl : Rl σC σM) (hW : lw_Wd k adC adM (fun q => s.heap.size ≤ q) σC σM H) (hS : va_S (fun q => s.heap.size ≤ q) s.heap H locs) (hl : lv_has ls 4 [(0, .ref b), (1, .ref (adC 0)), (2, .ref (adM 0)), (3, .int (nI i))])
    (next : ∀ (H1 : Heap) (locs1 : List Loc) (τC τM : pm_M), Rl τC τM → lw_Wd k adC adM (fun q => s.heap.size ≤ q) τC τM H1 → va_S (fun q => s.heap.size ≤ q) s.heap H1 locs1 → W p l e room_1 s m #[Value.ref b] below meth c H1 locs1 600000 7302249 Q (F0 m 1376 ls [])) : W p l e room_1 s m #[Value.ref b] below meth c H locs 600000 7302249 Q (F0 m 453 ls []) := by
  obtain ⟨hPC, hPM, hDC, hDM, hsp⟩ := hW
  obtain ⟨hx, hb, hr, hml, hown, hts, hX, hbl, hlocks, hgv⟩ := id C0
  obtain ⟨x1, hx1⟩ : ∃ y, y = xs (i + 1) := ⟨_, rfl⟩
  obtain ⟨x2, hx2⟩ : ∃ y, y = xs (i + 2) := ⟨_, rfl⟩
  obtain ⟨x3, hx3⟩ : ∃ y, y = xs (i + 3) := ⟨_, rfl⟩
  obtain ⟨ρC, ρM, hfC, hfM, hwr, hR2⟩ := hsp1 x1 x2 x3 σC σM hRl
  refine lv_aload_n hx hb dL_law_453 rfl (lv_at hl 1 rfl) ?_
  refine lw_ld (j := 1) C0 hL hi hS hl dL_law_454 dL_law_455 dL_law_456 dL_law_457 dL_law_458 (by decide) (by decide) ?_
  rw [← hx1]
  refine lw_ld (j := 2) C0 hL hi hS hl dL_law_459 dL_law_460 dL_law_461 dL_law_462 dL_law_463 (by decide) (by decide) ?_
  rw [← hx2]
  refine lw_ld (j := 3) C0 hL hi hS hl dL_law_464 dL_law_465 dL_law_466 dL_law_467 dL_law_468 (by decide) (by decide) ?_
  rw [← hx3]
  refine W.eq (g2 := F0 m 469 ls (([pv_i x1.toInt, pv_i x2.toInt, pv_i x3.toInt].map (pm_cv adC k.2.2.2)).reverse ++ .ref (adC 0) :: [])) (by simp only [List.map_cons, List.map_nil, List.reverse_cons, List.reverse_nil, List.nil_append, List.cons_append, pm_cv, Int32.ofInt_toInt] <;> rfl) ?_
  refine lw_callV (lay := LAYC) (σ2 := ρC.2) (ci := 11) (q := (RX11, TX11, 11)) C0 hK hSf dL_law_469 mk_L_45 lc_0 rfl rfl rfl (Nat.le_of_ble_eq_true rfl) (by decide) (by decide) (tmX11_wire hfC) hPC hDC hS hl.1 (fun H1 locs1 hP1 hD1 hk1 hS1 => ?_)
  have hPM := lw_keep hsp hPM hk1
  clear hS hPC
  have hPC := hP1
  have hS := hS1
  have hDC := hD1
  clear hP1 hS1 hk1 hD1
  generalize H1 = H at hPC hPM hS ⊢
  generalize locs1 = locs at hS ⊢
  refine lv_aload_n hx hb dL_law_472 rfl (lv_at hl 2 rfl) ?_
  refine lw_ld (j := 1) C0 hL hi hS hl dL_law_473 dL_law_474 dL_law_475 dL_law_476 dL_law_477 (by decide) (by decide) ?_
  rw [← hx1]
  refine lw_ld (j := 2) C0 hL hi hS hl dL_law_478 dL_law_479 dL_law_480 dL_law_481 dL_law_482 (by decide) (by decide) ?_
  rw [← hx2]
  refine lw_ld (j := 3) C0 hL hi hS hl dL_law_483 dL_law_484 dL_law_485 dL_law_486 dL_law_487 (by decide) (by decide) ?_
  rw [← hx3]
  refine W.eq (g2 := F0 m 488 ls (([pv_i x1.toInt, pv_i x2.toInt, pv_i x3.toInt].map (pm_cv adM k.2.2.2)).reverse ++ .ref (adM 0) :: [.int (Int32.ofInt ρC.1)])) (by simp only [List.map_cons, List.map_nil, List.reverse_cons, List.reverse_nil, List.nil_append, List.cons_append, pm_cv, Int32.ofInt_toInt] <;> rfl) ?_
  refine lw_callV (lay := LAYM) (σ2 := ρM.2) (ci := 12) (q := (RX12, TX12, 36)) C0 hK hSf dL_law_488 mk_L_48 lm_0 rfl rfl rfl (Nat.le_of_ble_eq_true rfl) (by decide) (by decide) (tmX12_wire hfM) hPM hDM hS hl.1 (fun H1 locs1 hP1 hD1 hk1 hS1 => ?_)
  have hPC := lw_keep (fun i j hi hj => (hsp j i hj hi).symm) hPC hk1
  clear hS hPM
  have hPM := hP1
  have hS := hS1
  have hDM := hD1
  clear hP1 hS1 hk1 hD1
  generalize H1 = H at hPC hPM hS ⊢
  generalize locs1 = locs at hS ⊢
  refine lv_icmp_eq (tgt := 1376) (x := Int32.ofInt ρC.1) (y := Int32.ofInt ρM.1) hx hb dL_law_491 (by decide) (fun _ => ?_) (fun q => absurd ((pm_eq _ _).mpr hwr) q)
  exact next _ _ ρC.2 ρM.2 hR2 ⟨hPC, hPM, hDC, hDM, hsp⟩ hS
set_option maxHeartbeats 4000000 in
set_option maxRecDepth 100000 in
theorem lc_mouldOf {p : Program} {l : Launch} {e : Env} {s : State} {m : MethodId} {below : List Frame} {meth : Method} {c : Code} {H : Heap} {locs : List Loc} {b L i : Nat} {xs : Nat → Int32} {Q : State → Prop} {ls : Array Slot} {k : pm_K} {adC adM : Nat → Nat} {σC σM : pm_M} {Rl : pm_M → pm_M → Prop} (hsp1 : sp_mouldOf Rl) (C0 : lw_At p s m meth c b L xs) (hK : va_K k.1 vwCl (pm_tys k) s) (hSf : pm_Sf k (fun q => s.heap.size ≤ q) s s.heap) (hL : L ≤ 3072) (hi : i + 6 ≤ L) (hRl : Rl σC σM) (hW : lw_Wd k adC adM (fun q => s.heap.size ≤ q) σC σM H) (hS : va_S (fun q => s.heap.size ≤ q) s.heap H locs) (hl : lv_has ls 4 [(0, .ref b), (1, .ref (adC 0)), (2, .ref (adM 0)), (3, .int (nI i))])
    (next : ∀ (H1 : Heap) (locs1 : List Loc) (τC τM : pm_M), Rl τC τM → lw_Wd k adC adM (fun q => s.heap.size ≤ q) τC τM H1 → va_S (fun q => s.heap.size ≤ q) s.heap H1 locs1 → W p l e room_1 s m #[Value.ref b] below meth c H1 locs1 600000 7302249 Q (F0 m 1376 ls [])) : W p l e room_1 s m #[Value.ref b] below meth c H locs 600000 7302249 Q (F0 m 496 ls []) := by
  obtain ⟨hPC, hPM, hDC, hDM, hsp⟩ := hW
  obtain ⟨hx, hb, hr, hml, hown, hts, hX, hbl, hlocks, hgv⟩ := id C0
  obtain ⟨x1, hx1⟩ : ∃ y, y = xs (i + 1) := ⟨_, rfl⟩
  obtain ⟨x2, hx2⟩ : ∃ y, y = xs (i + 2) := ⟨_, rfl⟩
  obtain ⟨ρC, ρM, hfC, hfM, hwr, hR2⟩ := hsp1 x1 x2 σC σM hRl
  refine lv_aload_n hx hb dL_law_496 rfl (lv_at hl 1 rfl) ?_
  refine lw_ld (j := 1) C0 hL hi hS hl dL_law_497 dL_law_498 dL_law_499 dL_law_500 dL_law_501 (by decide) (by decide) ?_
  rw [← hx1]
  refine lw_ld (j := 2) C0 hL hi hS hl dL_law_502 dL_law_503 dL_law_504 dL_law_505 dL_law_506 (by decide) (by decide) ?_
  rw [← hx2]
  refine W.eq (g2 := F0 m 507 ls (([pv_i x1.toInt, pv_i x2.toInt].map (pm_cv adC k.2.2.2)).reverse ++ .ref (adC 0) :: [])) (by simp only [List.map_cons, List.map_nil, List.reverse_cons, List.reverse_nil, List.nil_append, List.cons_append, pm_cv, Int32.ofInt_toInt] <;> rfl) ?_
  refine lw_callV (lay := LAYC) (σ2 := ρC.2) (ci := 11) (q := (RX11, TX11, 11)) C0 hK hSf dL_law_507 mk_L_49 lc_0 rfl rfl rfl (Nat.le_of_ble_eq_true rfl) (by decide) (by decide) (tmX11_mouldOf hfC) hPC hDC hS hl.1 (fun H1 locs1 hP1 hD1 hk1 hS1 => ?_)
  have hPM := lw_keep hsp hPM hk1
  clear hS hPC
  have hPC := hP1
  have hS := hS1
  have hDC := hD1
  clear hP1 hS1 hk1 hD1
  generalize H1 = H at hPC hPM hS ⊢
  generalize locs1 = locs at hS ⊢
  refine lv_aload_n hx hb dL_law_510 rfl (lv_at hl 2 rfl) ?_
  refine lw_ld (j := 1) C0 hL hi hS hl dL_law_511 dL_law_512 dL_law_513 dL_law_514 dL_law_515 (by decide) (by decide) ?_
  rw [← hx1]
  refine lw_ld (j := 2) C0 hL hi hS hl dL_law_516 dL_law_517 dL_law_518 dL_law_519 dL_law_520 (by decide) (by decide) ?_
  rw [← hx2]
  refine W.eq (g2 := F0 m 521 ls (([pv_i x1.toInt, pv_i x2.toInt].map (pm_cv adM k.2.2.2)).reverse ++ .ref (adM 0) :: [.int (Int32.ofInt ρC.1)])) (by simp only [List.map_cons, List.map_nil, List.reverse_cons, List.reverse_nil, List.nil_append, List.cons_append, pm_cv, Int32.ofInt_toInt] <;> rfl) ?_
  refine lw_callV (lay := LAYM) (σ2 := ρM.2) (ci := 12) (q := (RX12, TX12, 36)) C0 hK hSf dL_law_521 mk_L_52 lm_0 rfl rfl rfl (Nat.le_of_ble_eq_true rfl) (by decide) (by decide) (tmX12_mouldOf hfM) hPM hDM hS hl.1 (fun H1 locs1 hP1 hD1 hk1 hS1 => ?_)
  have hPC := lw_keep (fun i j hi hj => (hsp j i hj hi).symm) hPC hk1
  clear hS hPM
  have hPM := hP1
  have hS := hS1
  have hDM := hD1
  clear hP1 hS1 hk1 hD1
  generalize H1 = H at hPC hPM hS ⊢
  generalize locs1 = locs at hS ⊢
  refine lv_icmp_eq (tgt := 1376) (x := Int32.ofInt ρC.1) (y := Int32.ofInt ρM.1) hx hb dL_law_524 (by decide) (fun _ => ?_) (fun q => absurd ((pm_eq _ _).mpr hwr) q)
  exact next _ _ ρC.2 ρM.2 hR2 ⟨hPC, hPM, hDC, hDM, hsp⟩ hS
set_option maxHeartbeats 4000000 in
set_option maxRecDepth 100000 in
theorem lc_vat {p : Program} {l : Launch} {e : Env} {s : State} {m : MethodId} {below : List Frame} {meth : Method} {c : Code} {H : Heap} {locs : List Loc} {b L i : Nat} {xs : Nat → Int32} {Q : State → Prop} {ls : Array Slot} {k : pm_K} {adC adM : Nat → Nat} {σC σM : pm_M} {Rl : pm_M → pm_M → Prop} (hsp1 : sp_vat Rl) (C0 : lw_At p s m meth c b L xs) (hK : va_K k.1 vwCl (pm_tys k) s) (hSf : pm_Sf k (fun q => s.heap.size ≤ q) s s.heap) (hL : L ≤ 3072) (hi : i + 6 ≤ L) (hRl : Rl σC σM) (hW : lw_Wd k adC adM (fun q => s.heap.size ≤ q) σC σM H) (hS : va_S (fun q => s.heap.size ≤ q) s.heap H locs) (hl : lv_has ls 4 [(0, .ref b), (1, .ref (adC 0)), (2, .ref (adM 0)), (3, .int (nI i))])
    (next : ∀ (H1 : Heap) (locs1 : List Loc) (τC τM : pm_M), Rl τC τM → lw_Wd k adC adM (fun q => s.heap.size ≤ q) τC τM H1 → va_S (fun q => s.heap.size ≤ q) s.heap H1 locs1 → W p l e room_1 s m #[Value.ref b] below meth c H1 locs1 600000 7302249 Q (F0 m 1376 ls [])) : W p l e room_1 s m #[Value.ref b] below meth c H locs 600000 7302249 Q (F0 m 529 ls []) := by
  obtain ⟨hPC, hPM, hDC, hDM, hsp⟩ := hW
  obtain ⟨hx, hb, hr, hml, hown, hts, hX, hbl, hlocks, hgv⟩ := id C0
  obtain ⟨x1, hx1⟩ : ∃ y, y = xs (i + 1) := ⟨_, rfl⟩
  obtain ⟨x2, hx2⟩ : ∃ y, y = xs (i + 2) := ⟨_, rfl⟩
  obtain ⟨ρC, ρM, hfC, hfM, hwr, hR2⟩ := hsp1 x1 x2 σC σM hRl
  refine lv_aload_n hx hb dL_law_529 rfl (lv_at hl 1 rfl) ?_
  refine lw_ld (j := 1) C0 hL hi hS hl dL_law_530 dL_law_531 dL_law_532 dL_law_533 dL_law_534 (by decide) (by decide) ?_
  rw [← hx1]
  refine lw_ld (j := 2) C0 hL hi hS hl dL_law_535 dL_law_536 dL_law_537 dL_law_538 dL_law_539 (by decide) (by decide) ?_
  rw [← hx2]
  refine W.eq (g2 := F0 m 540 ls (([pv_i x1.toInt, pv_i x2.toInt].map (pm_cv adC k.2.2.2)).reverse ++ .ref (adC 0) :: [])) (by simp only [List.map_cons, List.map_nil, List.reverse_cons, List.reverse_nil, List.nil_append, List.cons_append, pm_cv, Int32.ofInt_toInt] <;> rfl) ?_
  refine lw_callV (lay := LAYC) (σ2 := ρC.2) (ci := 11) (q := (RX11, TX11, 11)) C0 hK hSf dL_law_540 mk_L_53 lc_0 rfl rfl rfl (Nat.le_of_ble_eq_true rfl) (by decide) (by decide) (tmX11_vat hfC) hPC hDC hS hl.1 (fun H1 locs1 hP1 hD1 hk1 hS1 => ?_)
  have hPM := lw_keep hsp hPM hk1
  clear hS hPC
  have hPC := hP1
  have hS := hS1
  have hDC := hD1
  clear hP1 hS1 hk1 hD1
  generalize H1 = H at hPC hPM hS ⊢
  generalize locs1 = locs at hS ⊢
  refine lv_aload_n hx hb dL_law_543 rfl (lv_at hl 2 rfl) ?_
  refine lw_ld (j := 1) C0 hL hi hS hl dL_law_544 dL_law_545 dL_law_546 dL_law_547 dL_law_548 (by decide) (by decide) ?_
  rw [← hx1]
  refine lw_ld (j := 2) C0 hL hi hS hl dL_law_549 dL_law_550 dL_law_551 dL_law_552 dL_law_553 (by decide) (by decide) ?_
  rw [← hx2]
  refine W.eq (g2 := F0 m 554 ls (([pv_i x1.toInt, pv_i x2.toInt].map (pm_cv adM k.2.2.2)).reverse ++ .ref (adM 0) :: [.int (Int32.ofInt ρC.1)])) (by simp only [List.map_cons, List.map_nil, List.reverse_cons, List.reverse_nil, List.nil_append, List.cons_append, pm_cv, Int32.ofInt_toInt] <;> rfl) ?_
  refine lw_callV (lay := LAYM) (σ2 := ρM.2) (ci := 12) (q := (RX12, TX12, 36)) C0 hK hSf dL_law_554 mk_L_56 lm_0 rfl rfl rfl (Nat.le_of_ble_eq_true rfl) (by decide) (by decide) (tmX12_vat hfM) hPM hDM hS hl.1 (fun H1 locs1 hP1 hD1 hk1 hS1 => ?_)
  have hPC := lw_keep (fun i j hi hj => (hsp j i hj hi).symm) hPC hk1
  clear hS hPM
  have hPM := hP1
  have hS := hS1
  have hDM := hD1
  clear hP1 hS1 hk1 hD1
  generalize H1 = H at hPC hPM hS ⊢
  generalize locs1 = locs at hS ⊢
  refine lv_icmp_eq (tgt := 1376) (x := Int32.ofInt ρC.1) (y := Int32.ofInt ρM.1) hx hb dL_law_557 (by decide) (fun _ => ?_) (fun q => absurd ((pm_eq _ _).mpr hwr) q)
  exact next _ _ ρC.2 ρM.2 hR2 ⟨hPC, hPM, hDC, hDM, hsp⟩ hS
set_option maxHeartbeats 4000000 in
set_option maxRecDepth 100000 in
theorem lc_furnish {p : Program} {l : Launch} {e : Env} {s : State} {m : MethodId} {below : List Frame} {meth : Method} {c : Code} {H : Heap} {locs : List Loc} {b L i : Nat} {xs : Nat → Int32} {Q : State → Prop} {ls : Array Slot} {k : pm_K} {adC adM : Nat → Nat} {σC σM : pm_M} {Rl : pm_M → pm_M → Prop} (hsp1 : sp_furnish Rl) (C0 : lw_At p s m meth c b L xs) (hK : va_K k.1 vwCl (pm_tys k) s) (hSf : pm_Sf k (fun q => s.heap.size ≤ q) s s.heap) (hL : L ≤ 3072) (hi : i + 6 ≤ L) (hRl : Rl σC σM) (hW : lw_Wd k adC adM (fun q => s.heap.size ≤ q) σC σM H) (hS : va_S (fun q => s.heap.size ≤ q) s.heap H locs) (hl : lv_has ls 4 [(0, .ref b), (1, .ref (adC 0)), (2, .ref (adM 0)), (3, .int (nI i))])
    (next : ∀ (H1 : Heap) (locs1 : List Loc) (τC τM : pm_M), Rl τC τM → lw_Wd k adC adM (fun q => s.heap.size ≤ q) τC τM H1 → va_S (fun q => s.heap.size ≤ q) s.heap H1 locs1 → W p l e room_1 s m #[Value.ref b] below meth c H1 locs1 600000 7302249 Q (F0 m 1376 ls [])) : W p l e room_1 s m #[Value.ref b] below meth c H locs 600000 7302249 Q (F0 m 562 ls []) := by
  obtain ⟨hPC, hPM, hDC, hDM, hsp⟩ := hW
  obtain ⟨hx, hb, hr, hml, hown, hts, hX, hbl, hlocks, hgv⟩ := id C0
  obtain ⟨x1, hx1⟩ : ∃ y, y = xs (i + 1) := ⟨_, rfl⟩
  obtain ⟨x2, hx2⟩ : ∃ y, y = xs (i + 2) := ⟨_, rfl⟩
  obtain ⟨ρC, ρM, hfC, hfM, hwr, hR2⟩ := hsp1 x1 x2 σC σM hRl
  refine lv_aload_n hx hb dL_law_562 rfl (lv_at hl 1 rfl) ?_
  refine lw_ld (j := 1) C0 hL hi hS hl dL_law_563 dL_law_564 dL_law_565 dL_law_566 dL_law_567 (by decide) (by decide) ?_
  rw [← hx1]
  refine lw_ld (j := 2) C0 hL hi hS hl dL_law_568 dL_law_569 dL_law_570 dL_law_571 dL_law_572 (by decide) (by decide) ?_
  rw [← hx2]
  refine W.eq (g2 := F0 m 573 ls (([pv_i x1.toInt, pv_i x2.toInt].map (pm_cv adC k.2.2.2)).reverse ++ .ref (adC 0) :: [])) (by simp only [List.map_cons, List.map_nil, List.reverse_cons, List.reverse_nil, List.nil_append, List.cons_append, pm_cv, Int32.ofInt_toInt] <;> rfl) ?_
  refine lw_callV (lay := LAYC) (σ2 := ρC.2) (ci := 11) (q := (RX11, TX11, 11)) C0 hK hSf dL_law_573 mk_L_57 lc_0 rfl rfl rfl (Nat.le_of_ble_eq_true rfl) (by decide) (by decide) (tmX11_furnish hfC) hPC hDC hS hl.1 (fun H1 locs1 hP1 hD1 hk1 hS1 => ?_)
  have hPM := lw_keep hsp hPM hk1
  clear hS hPC
  have hPC := hP1
  have hS := hS1
  have hDC := hD1
  clear hP1 hS1 hk1 hD1
  generalize H1 = H at hPC hPM hS ⊢
  generalize locs1 = locs at hS ⊢
  refine lv_aload_n hx hb dL_law_576 rfl (lv_at hl 2 rfl) ?_
  refine lw_ld (j := 1) C0 hL hi hS hl dL_law_577 dL_law_578 dL_law_579 dL_law_580 dL_law_581 (by decide) (by decide) ?_
  rw [← hx1]
  refine lw_ld (j := 2) C0 hL hi hS hl dL_law_582 dL_law_583 dL_law_584 dL_law_585 dL_law_586 (by decide) (by decide) ?_
  rw [← hx2]
  refine W.eq (g2 := F0 m 587 ls (([pv_i x1.toInt, pv_i x2.toInt].map (pm_cv adM k.2.2.2)).reverse ++ .ref (adM 0) :: [.int (Int32.ofInt ρC.1)])) (by simp only [List.map_cons, List.map_nil, List.reverse_cons, List.reverse_nil, List.nil_append, List.cons_append, pm_cv, Int32.ofInt_toInt] <;> rfl) ?_
  refine lw_callV (lay := LAYM) (σ2 := ρM.2) (ci := 12) (q := (RX12, TX12, 36)) C0 hK hSf dL_law_587 mk_L_60 lm_0 rfl rfl rfl (Nat.le_of_ble_eq_true rfl) (by decide) (by decide) (tmX12_furnish hfM) hPM hDM hS hl.1 (fun H1 locs1 hP1 hD1 hk1 hS1 => ?_)
  have hPC := lw_keep (fun i j hi hj => (hsp j i hj hi).symm) hPC hk1
  clear hS hPM
  have hPM := hP1
  have hS := hS1
  have hDM := hD1
  clear hP1 hS1 hk1 hD1
  generalize H1 = H at hPC hPM hS ⊢
  generalize locs1 = locs at hS ⊢
  refine lv_icmp_eq (tgt := 1376) (x := Int32.ofInt ρC.1) (y := Int32.ofInt ρM.1) hx hb dL_law_590 (by decide) (fun _ => ?_) (fun q => absurd ((pm_eq _ _).mpr hwr) q)
  exact next _ _ ρC.2 ρM.2 hR2 ⟨hPC, hPM, hDC, hDM, hsp⟩ hS
set_option maxHeartbeats 4000000 in
set_option maxRecDepth 100000 in
theorem lc_loft {p : Program} {l : Launch} {e : Env} {s : State} {m : MethodId} {below : List Frame} {meth : Method} {c : Code} {H : Heap} {locs : List Loc} {b L i : Nat} {xs : Nat → Int32} {Q : State → Prop} {ls : Array Slot} {k : pm_K} {adC adM : Nat → Nat} {σC σM : pm_M} {Rl : pm_M → pm_M → Prop} (hsp1 : sp_loft Rl) (C0 : lw_At p s m meth c b L xs) (hK : va_K k.1 vwCl (pm_tys k) s) (hSf : pm_Sf k (fun q => s.heap.size ≤ q) s s.heap) (hL : L ≤ 3072) (hi : i + 6 ≤ L) (hRl : Rl σC σM) (hW : lw_Wd k adC adM (fun q => s.heap.size ≤ q) σC σM H) (hS : va_S (fun q => s.heap.size ≤ q) s.heap H locs) (hl : lv_has ls 4 [(0, .ref b), (1, .ref (adC 0)), (2, .ref (adM 0)), (3, .int (nI i))])
    (next : ∀ (H1 : Heap) (locs1 : List Loc) (τC τM : pm_M), Rl τC τM → lw_Wd k adC adM (fun q => s.heap.size ≤ q) τC τM H1 → va_S (fun q => s.heap.size ≤ q) s.heap H1 locs1 → W p l e room_1 s m #[Value.ref b] below meth c H1 locs1 600000 7302249 Q (F0 m 1376 ls [])) : W p l e room_1 s m #[Value.ref b] below meth c H locs 600000 7302249 Q (F0 m 595 ls []) := by
  obtain ⟨hPC, hPM, hDC, hDM, hsp⟩ := hW
  obtain ⟨hx, hb, hr, hml, hown, hts, hX, hbl, hlocks, hgv⟩ := id C0
  obtain ⟨x1, hx1⟩ : ∃ y, y = xs (i + 1) := ⟨_, rfl⟩
  obtain ⟨ρC, ρM, hfC, hfM, hwr, hR2⟩ := hsp1 x1 σC σM hRl
  refine lv_aload_n hx hb dL_law_595 rfl (lv_at hl 1 rfl) ?_
  refine lw_ld (j := 1) C0 hL hi hS hl dL_law_596 dL_law_597 dL_law_598 dL_law_599 dL_law_600 (by decide) (by decide) ?_
  rw [← hx1]
  refine W.eq (g2 := F0 m 601 ls (([pv_i x1.toInt].map (pm_cv adC k.2.2.2)).reverse ++ .ref (adC 0) :: [])) (by simp only [List.map_cons, List.map_nil, List.reverse_cons, List.reverse_nil, List.nil_append, List.cons_append, pm_cv, Int32.ofInt_toInt] <;> rfl) ?_
  refine lw_callV (lay := LAYC) (σ2 := ρC.2) (ci := 11) (q := (RX11, TX11, 11)) C0 hK hSf dL_law_601 mk_L_61 lc_0 rfl rfl rfl (Nat.le_of_ble_eq_true rfl) (by decide) (by decide) (tmX11_loft hfC) hPC hDC hS hl.1 (fun H1 locs1 hP1 hD1 hk1 hS1 => ?_)
  have hPM := lw_keep hsp hPM hk1
  clear hS hPC
  have hPC := hP1
  have hS := hS1
  have hDC := hD1
  clear hP1 hS1 hk1 hD1
  generalize H1 = H at hPC hPM hS ⊢
  generalize locs1 = locs at hS ⊢
  refine lv_aload_n hx hb dL_law_604 rfl (lv_at hl 2 rfl) ?_
  refine lw_ld (j := 1) C0 hL hi hS hl dL_law_605 dL_law_606 dL_law_607 dL_law_608 dL_law_609 (by decide) (by decide) ?_
  rw [← hx1]
  refine W.eq (g2 := F0 m 610 ls (([pv_i x1.toInt].map (pm_cv adM k.2.2.2)).reverse ++ .ref (adM 0) :: [.int (Int32.ofInt ρC.1)])) (by simp only [List.map_cons, List.map_nil, List.reverse_cons, List.reverse_nil, List.nil_append, List.cons_append, pm_cv, Int32.ofInt_toInt] <;> rfl) ?_
  refine lw_callV (lay := LAYM) (σ2 := ρM.2) (ci := 12) (q := (RX12, TX12, 36)) C0 hK hSf dL_law_610 mk_L_64 lm_0 rfl rfl rfl (Nat.le_of_ble_eq_true rfl) (by decide) (by decide) (tmX12_loft hfM) hPM hDM hS hl.1 (fun H1 locs1 hP1 hD1 hk1 hS1 => ?_)
  have hPC := lw_keep (fun i j hi hj => (hsp j i hj hi).symm) hPC hk1
  clear hS hPM
  have hPM := hP1
  have hS := hS1
  have hDM := hD1
  clear hP1 hS1 hk1 hD1
  generalize H1 = H at hPC hPM hS ⊢
  generalize locs1 = locs at hS ⊢
  refine lv_icmp_eq (tgt := 1376) (x := Int32.ofInt ρC.1) (y := Int32.ofInt ρM.1) hx hb dL_law_613 (by decide) (fun _ => ?_) (fun q => absurd ((pm_eq _ _).mpr hwr) q)
  exact next _ _ ρC.2 ρM.2 hR2 ⟨hPC, hPM, hDC, hDM, hsp⟩ hS
set_option maxHeartbeats 4000000 in
set_option maxRecDepth 100000 in
theorem lc_hides {p : Program} {l : Launch} {e : Env} {s : State} {m : MethodId} {below : List Frame} {meth : Method} {c : Code} {H : Heap} {locs : List Loc} {b L i : Nat} {xs : Nat → Int32} {Q : State → Prop} {ls : Array Slot} {k : pm_K} {adC adM : Nat → Nat} {σC σM : pm_M} {Rl : pm_M → pm_M → Prop} (hsp1 : sp_hides Rl) (C0 : lw_At p s m meth c b L xs) (hK : va_K k.1 vwCl (pm_tys k) s) (hSf : pm_Sf k (fun q => s.heap.size ≤ q) s s.heap) (hL : L ≤ 3072) (hi : i + 6 ≤ L) (hRl : Rl σC σM) (hW : lw_Wd k adC adM (fun q => s.heap.size ≤ q) σC σM H) (hS : va_S (fun q => s.heap.size ≤ q) s.heap H locs) (hl : lv_has ls 4 [(0, .ref b), (1, .ref (adC 0)), (2, .ref (adM 0)), (3, .int (nI i))])
    (next : ∀ (H1 : Heap) (locs1 : List Loc) (τC τM : pm_M), Rl τC τM → lw_Wd k adC adM (fun q => s.heap.size ≤ q) τC τM H1 → va_S (fun q => s.heap.size ≤ q) s.heap H1 locs1 → W p l e room_1 s m #[Value.ref b] below meth c H1 locs1 600000 7302249 Q (F0 m 1376 ls [])) : W p l e room_1 s m #[Value.ref b] below meth c H locs 600000 7302249 Q (F0 m 618 ls []) := by
  obtain ⟨hPC, hPM, hDC, hDM, hsp⟩ := hW
  obtain ⟨hx, hb, hr, hml, hown, hts, hX, hbl, hlocks, hgv⟩ := id C0
  obtain ⟨x1, hx1⟩ : ∃ y, y = xs (i + 1) := ⟨_, rfl⟩
  obtain ⟨ρC, ρM, hfC, hfM, hwr, hR2⟩ := hsp1 x1 σC σM hRl
  refine lv_aload_n hx hb dL_law_618 rfl (lv_at hl 1 rfl) ?_
  refine lw_ld (j := 1) C0 hL hi hS hl dL_law_619 dL_law_620 dL_law_621 dL_law_622 dL_law_623 (by decide) (by decide) ?_
  rw [← hx1]
  refine W.eq (g2 := F0 m 624 ls (([pv_i x1.toInt].map (pm_cv adC k.2.2.2)).reverse ++ .ref (adC 0) :: [])) (by simp only [List.map_cons, List.map_nil, List.reverse_cons, List.reverse_nil, List.nil_append, List.cons_append, pm_cv, Int32.ofInt_toInt] <;> rfl) ?_
  refine lw_callV (lay := LAYC) (σ2 := ρC.2) (ci := 11) (q := (RX11, TX11, 11)) C0 hK hSf dL_law_624 mk_L_65 lc_0 rfl rfl rfl (Nat.le_of_ble_eq_true rfl) (by decide) (by decide) (tmX11_hides hfC) hPC hDC hS hl.1 (fun H1 locs1 hP1 hD1 hk1 hS1 => ?_)
  have hPM := lw_keep hsp hPM hk1
  clear hS hPC
  have hPC := hP1
  have hS := hS1
  have hDC := hD1
  clear hP1 hS1 hk1 hD1
  generalize H1 = H at hPC hPM hS ⊢
  generalize locs1 = locs at hS ⊢
  refine lv_aload_n hx hb dL_law_627 rfl (lv_at hl 2 rfl) ?_
  refine lw_ld (j := 1) C0 hL hi hS hl dL_law_628 dL_law_629 dL_law_630 dL_law_631 dL_law_632 (by decide) (by decide) ?_
  rw [← hx1]
  refine W.eq (g2 := F0 m 633 ls (([pv_i x1.toInt].map (pm_cv adM k.2.2.2)).reverse ++ .ref (adM 0) :: [.int (Int32.ofInt ρC.1)])) (by simp only [List.map_cons, List.map_nil, List.reverse_cons, List.reverse_nil, List.nil_append, List.cons_append, pm_cv, Int32.ofInt_toInt] <;> rfl) ?_
  refine lw_callV (lay := LAYM) (σ2 := ρM.2) (ci := 12) (q := (RX12, TX12, 36)) C0 hK hSf dL_law_633 mk_L_68 lm_0 rfl rfl rfl (Nat.le_of_ble_eq_true rfl) (by decide) (by decide) (tmX12_hides hfM) hPM hDM hS hl.1 (fun H1 locs1 hP1 hD1 hk1 hS1 => ?_)
  have hPC := lw_keep (fun i j hi hj => (hsp j i hj hi).symm) hPC hk1
  clear hS hPM
  have hPM := hP1
  have hS := hS1
  have hDM := hD1
  clear hP1 hS1 hk1 hD1
  generalize H1 = H at hPC hPM hS ⊢
  generalize locs1 = locs at hS ⊢
  refine lv_icmp_eq (tgt := 1376) (x := Int32.ofInt ρC.1) (y := Int32.ofInt ρM.1) hx hb dL_law_636 (by decide) (fun _ => ?_) (fun q => absurd ((pm_eq _ _).mpr hwr) q)
  exact next _ _ ρC.2 ρM.2 hR2 ⟨hPC, hPM, hDC, hDM, hsp⟩ hS
set_option maxHeartbeats 4000000 in
set_option maxRecDepth 100000 in
theorem lc_size {p : Program} {l : Launch} {e : Env} {s : State} {m : MethodId} {below : List Frame} {meth : Method} {c : Code} {H : Heap} {locs : List Loc} {b L i : Nat} {xs : Nat → Int32} {Q : State → Prop} {ls : Array Slot} {k : pm_K} {adC adM : Nat → Nat} {σC σM : pm_M} {Rl : pm_M → pm_M → Prop} (hsp1 : sp_size Rl) (C0 : lw_At p s m meth c b L xs) (hK : va_K k.1 vwCl (pm_tys k) s) (hSf : pm_Sf k (fun q => s.heap.size ≤ q) s s.heap) (hL : L ≤ 3072) (hi : i + 6 ≤ L) (hRl : Rl σC σM) (hW : lw_Wd k adC adM (fun q => s.heap.size ≤ q) σC σM H) (hS : va_S (fun q => s.heap.size ≤ q) s.heap H locs) (hl : lv_has ls 4 [(0, .ref b), (1, .ref (adC 0)), (2, .ref (adM 0)), (3, .int (nI i))])
    (next : ∀ (H1 : Heap) (locs1 : List Loc) (τC τM : pm_M), Rl τC τM → lw_Wd k adC adM (fun q => s.heap.size ≤ q) τC τM H1 → va_S (fun q => s.heap.size ≤ q) s.heap H1 locs1 → W p l e room_1 s m #[Value.ref b] below meth c H1 locs1 600000 7302249 Q (F0 m 1376 ls [])) : W p l e room_1 s m #[Value.ref b] below meth c H locs 600000 7302249 Q (F0 m 641 ls []) := by
  obtain ⟨hPC, hPM, hDC, hDM, hsp⟩ := hW
  obtain ⟨hx, hb, hr, hml, hown, hts, hX, hbl, hlocks, hgv⟩ := id C0
  obtain ⟨x1, hx1⟩ : ∃ y, y = xs (i + 1) := ⟨_, rfl⟩
  obtain ⟨ρC, ρM, hfC, hfM, hwr, hR2⟩ := hsp1 x1 σC σM hRl
  refine lv_aload_n hx hb dL_law_641 rfl (lv_at hl 1 rfl) ?_
  refine lw_ld (j := 1) C0 hL hi hS hl dL_law_642 dL_law_643 dL_law_644 dL_law_645 dL_law_646 (by decide) (by decide) ?_
  rw [← hx1]
  refine W.eq (g2 := F0 m 647 ls (([pv_i x1.toInt].map (pm_cv adC k.2.2.2)).reverse ++ .ref (adC 0) :: [])) (by simp only [List.map_cons, List.map_nil, List.reverse_cons, List.reverse_nil, List.nil_append, List.cons_append, pm_cv, Int32.ofInt_toInt] <;> rfl) ?_
  refine lw_callV (lay := LAYC) (σ2 := ρC.2) (ci := 11) (q := (RX11, TX11, 11)) C0 hK hSf dL_law_647 mk_L_69 lc_0 rfl rfl rfl (Nat.le_of_ble_eq_true rfl) (by decide) (by decide) (tmX11_size hfC) hPC hDC hS hl.1 (fun H1 locs1 hP1 hD1 hk1 hS1 => ?_)
  have hPM := lw_keep hsp hPM hk1
  clear hS hPC
  have hPC := hP1
  have hS := hS1
  have hDC := hD1
  clear hP1 hS1 hk1 hD1
  generalize H1 = H at hPC hPM hS ⊢
  generalize locs1 = locs at hS ⊢
  refine lv_aload_n hx hb dL_law_650 rfl (lv_at hl 2 rfl) ?_
  refine lw_ld (j := 1) C0 hL hi hS hl dL_law_651 dL_law_652 dL_law_653 dL_law_654 dL_law_655 (by decide) (by decide) ?_
  rw [← hx1]
  refine W.eq (g2 := F0 m 656 ls (([pv_i x1.toInt].map (pm_cv adM k.2.2.2)).reverse ++ .ref (adM 0) :: [.int (Int32.ofInt ρC.1)])) (by simp only [List.map_cons, List.map_nil, List.reverse_cons, List.reverse_nil, List.nil_append, List.cons_append, pm_cv, Int32.ofInt_toInt] <;> rfl) ?_
  refine lw_callV (lay := LAYM) (σ2 := ρM.2) (ci := 12) (q := (RX12, TX12, 36)) C0 hK hSf dL_law_656 mk_L_72 lm_0 rfl rfl rfl (Nat.le_of_ble_eq_true rfl) (by decide) (by decide) (tmX12_size hfM) hPM hDM hS hl.1 (fun H1 locs1 hP1 hD1 hk1 hS1 => ?_)
  have hPC := lw_keep (fun i j hi hj => (hsp j i hj hi).symm) hPC hk1
  clear hS hPM
  have hPM := hP1
  have hS := hS1
  have hDM := hD1
  clear hP1 hS1 hk1 hD1
  generalize H1 = H at hPC hPM hS ⊢
  generalize locs1 = locs at hS ⊢
  refine lv_icmp_eq (tgt := 1376) (x := Int32.ofInt ρC.1) (y := Int32.ofInt ρM.1) hx hb dL_law_659 (by decide) (fun _ => ?_) (fun q => absurd ((pm_eq _ _).mpr hwr) q)
  exact next _ _ ρC.2 ρM.2 hR2 ⟨hPC, hPM, hDC, hDM, hsp⟩ hS
set_option maxHeartbeats 4000000 in
set_option maxRecDepth 100000 in
theorem lc_sizeAll {p : Program} {l : Launch} {e : Env} {s : State} {m : MethodId} {below : List Frame} {meth : Method} {c : Code} {H : Heap} {locs : List Loc} {b L i : Nat} {xs : Nat → Int32} {Q : State → Prop} {ls : Array Slot} {k : pm_K} {adC adM : Nat → Nat} {σC σM : pm_M} {Rl : pm_M → pm_M → Prop} (hsp1 : sp_sizeAll Rl) (C0 : lw_At p s m meth c b L xs) (hK : va_K k.1 vwCl (pm_tys k) s) (hSf : pm_Sf k (fun q => s.heap.size ≤ q) s s.heap) (hL : L ≤ 3072) (hi : i + 6 ≤ L) (hRl : Rl σC σM) (hW : lw_Wd k adC adM (fun q => s.heap.size ≤ q) σC σM H) (hS : va_S (fun q => s.heap.size ≤ q) s.heap H locs) (hl : lv_has ls 4 [(0, .ref b), (1, .ref (adC 0)), (2, .ref (adM 0)), (3, .int (nI i))])
    (next : ∀ (H1 : Heap) (locs1 : List Loc) (τC τM : pm_M), Rl τC τM → lw_Wd k adC adM (fun q => s.heap.size ≤ q) τC τM H1 → va_S (fun q => s.heap.size ≤ q) s.heap H1 locs1 → W p l e room_1 s m #[Value.ref b] below meth c H1 locs1 600000 7302249 Q (F0 m 1376 ls [])) : W p l e room_1 s m #[Value.ref b] below meth c H locs 600000 7302249 Q (F0 m 664 ls []) := by
  obtain ⟨hPC, hPM, hDC, hDM, hsp⟩ := hW
  obtain ⟨hx, hb, hr, hml, hown, hts, hX, hbl, hlocks, hgv⟩ := id C0
  obtain ⟨ρC, ρM, hfC, hfM, hwr, hR2⟩ := hsp1 σC σM hRl
  refine lv_aload_n hx hb dL_law_664 rfl (lv_at hl 1 rfl) ?_
  refine W.eq (g2 := F0 m 665 ls (([].map (pm_cv adC k.2.2.2)).reverse ++ .ref (adC 0) :: [])) (by simp only [List.map_cons, List.map_nil, List.reverse_cons, List.reverse_nil, List.nil_append, List.cons_append, pm_cv, Int32.ofInt_toInt] <;> rfl) ?_
  refine lw_callV (lay := LAYC) (σ2 := ρC.2) (ci := 11) (q := (RX11, TX11, 11)) C0 hK hSf dL_law_665 mk_L_73 lc_0 rfl rfl rfl (Nat.le_of_ble_eq_true rfl) (by decide) (by decide) (tmX11_sizeAll hfC) hPC hDC hS hl.1 (fun H1 locs1 hP1 hD1 hk1 hS1 => ?_)
  have hPM := lw_keep hsp hPM hk1
  clear hS hPC
  have hPC := hP1
  have hS := hS1
  have hDC := hD1
  clear hP1 hS1 hk1 hD1
  generalize H1 = H at hPC hPM hS ⊢
  generalize locs1 = locs at hS ⊢
  refine lv_aload_n hx hb dL_law_668 rfl (lv_at hl 2 rfl) ?_
  refine W.eq (g2 := F0 m 669 ls (([].map (pm_cv adM k.2.2.2)).reverse ++ .ref (adM 0) :: [.int (Int32.ofInt ρC.1)])) (by simp only [List.map_cons, List.map_nil, List.reverse_cons, List.reverse_nil, List.nil_append, List.cons_append, pm_cv, Int32.ofInt_toInt] <;> rfl) ?_
  refine lw_callV (lay := LAYM) (σ2 := ρM.2) (ci := 12) (q := (RX12, TX12, 36)) C0 hK hSf dL_law_669 mk_L_77 lm_0 rfl rfl rfl (Nat.le_of_ble_eq_true rfl) (by decide) (by decide) (tmX12_sizeAll hfM) hPM hDM hS hl.1 (fun H1 locs1 hP1 hD1 hk1 hS1 => ?_)
  have hPC := lw_keep (fun i j hi hj => (hsp j i hj hi).symm) hPC hk1
  clear hS hPM
  have hPM := hP1
  have hS := hS1
  have hDM := hD1
  clear hP1 hS1 hk1 hD1
  generalize H1 = H at hPC hPM hS ⊢
  generalize locs1 = locs at hS ⊢
  refine lv_icmp_eq (tgt := 1376) (x := Int32.ofInt ρC.1) (y := Int32.ofInt ρM.1) hx hb dL_law_672 (by decide) (fun _ => ?_) (fun q => absurd ((pm_eq _ _).mpr hwr) q)
  exact next _ _ ρC.2 ρM.2 hR2 ⟨hPC, hPM, hDC, hDM, hsp⟩ hS
set_option maxHeartbeats 4000000 in
set_option maxRecDepth 100000 in
theorem lc_duty {p : Program} {l : Launch} {e : Env} {s : State} {m : MethodId} {below : List Frame} {meth : Method} {c : Code} {H : Heap} {locs : List Loc} {b L i : Nat} {xs : Nat → Int32} {Q : State → Prop} {ls : Array Slot} {k : pm_K} {adC adM : Nat → Nat} {σC σM : pm_M} {Rl : pm_M → pm_M → Prop} (hsp1 : sp_duty Rl) (C0 : lw_At p s m meth c b L xs) (hK : va_K k.1 vwCl (pm_tys k) s) (hSf : pm_Sf k (fun q => s.heap.size ≤ q) s s.heap) (hL : L ≤ 3072) (hi : i + 6 ≤ L) (hRl : Rl σC σM) (hW : lw_Wd k adC adM (fun q => s.heap.size ≤ q) σC σM H) (hS : va_S (fun q => s.heap.size ≤ q) s.heap H locs) (hl : lv_has ls 4 [(0, .ref b), (1, .ref (adC 0)), (2, .ref (adM 0)), (3, .int (nI i))])
    (next : ∀ (H1 : Heap) (locs1 : List Loc) (τC τM : pm_M), Rl τC τM → lw_Wd k adC adM (fun q => s.heap.size ≤ q) τC τM H1 → va_S (fun q => s.heap.size ≤ q) s.heap H1 locs1 → W p l e room_1 s m #[Value.ref b] below meth c H1 locs1 600000 7302249 Q (F0 m 1376 ls [])) : W p l e room_1 s m #[Value.ref b] below meth c H locs 600000 7302249 Q (F0 m 677 ls []) := by
  obtain ⟨hPC, hPM, hDC, hDM, hsp⟩ := hW
  obtain ⟨hx, hb, hr, hml, hown, hts, hX, hbl, hlocks, hgv⟩ := id C0
  obtain ⟨x1, hx1⟩ : ∃ y, y = xs (i + 1) := ⟨_, rfl⟩
  obtain ⟨x2, hx2⟩ : ∃ y, y = xs (i + 2) := ⟨_, rfl⟩
  obtain ⟨ρC, ρM, hfC, hfM, hwr, hR2⟩ := hsp1 x1 x2 σC σM hRl
  refine lv_aload_n hx hb dL_law_677 rfl (lv_at hl 1 rfl) ?_
  refine lw_ld (j := 1) C0 hL hi hS hl dL_law_678 dL_law_679 dL_law_680 dL_law_681 dL_law_682 (by decide) (by decide) ?_
  rw [← hx1]
  refine lw_ld (j := 2) C0 hL hi hS hl dL_law_683 dL_law_684 dL_law_685 dL_law_686 dL_law_687 (by decide) (by decide) ?_
  rw [← hx2]
  refine W.eq (g2 := F0 m 688 ls (([pv_i x1.toInt, pv_i x2.toInt].map (pm_cv adC k.2.2.2)).reverse ++ .ref (adC 0) :: [])) (by simp only [List.map_cons, List.map_nil, List.reverse_cons, List.reverse_nil, List.nil_append, List.cons_append, pm_cv, Int32.ofInt_toInt] <;> rfl) ?_
  refine lw_callV (lay := LAYC) (σ2 := ρC.2) (ci := 11) (q := (RX11, TX11, 11)) C0 hK hSf dL_law_688 mk_L_78 lc_0 rfl rfl rfl (Nat.le_of_ble_eq_true rfl) (by decide) (by decide) (tmX11_duty hfC) hPC hDC hS hl.1 (fun H1 locs1 hP1 hD1 hk1 hS1 => ?_)
  have hPM := lw_keep hsp hPM hk1
  clear hS hPC
  have hPC := hP1
  have hS := hS1
  have hDC := hD1
  clear hP1 hS1 hk1 hD1
  generalize H1 = H at hPC hPM hS ⊢
  generalize locs1 = locs at hS ⊢
  refine lv_aload_n hx hb dL_law_691 rfl (lv_at hl 2 rfl) ?_
  refine lw_ld (j := 1) C0 hL hi hS hl dL_law_692 dL_law_693 dL_law_694 dL_law_695 dL_law_696 (by decide) (by decide) ?_
  rw [← hx1]
  refine lw_ld (j := 2) C0 hL hi hS hl dL_law_697 dL_law_698 dL_law_699 dL_law_700 dL_law_701 (by decide) (by decide) ?_
  rw [← hx2]
  refine W.eq (g2 := F0 m 702 ls (([pv_i x1.toInt, pv_i x2.toInt].map (pm_cv adM k.2.2.2)).reverse ++ .ref (adM 0) :: [.int (Int32.ofInt ρC.1)])) (by simp only [List.map_cons, List.map_nil, List.reverse_cons, List.reverse_nil, List.nil_append, List.cons_append, pm_cv, Int32.ofInt_toInt] <;> rfl) ?_
  refine lw_callV (lay := LAYM) (σ2 := ρM.2) (ci := 12) (q := (RX12, TX12, 36)) C0 hK hSf dL_law_702 mk_L_81 lm_0 rfl rfl rfl (Nat.le_of_ble_eq_true rfl) (by decide) (by decide) (tmX12_duty hfM) hPM hDM hS hl.1 (fun H1 locs1 hP1 hD1 hk1 hS1 => ?_)
  have hPC := lw_keep (fun i j hi hj => (hsp j i hj hi).symm) hPC hk1
  clear hS hPM
  have hPM := hP1
  have hS := hS1
  have hDM := hD1
  clear hP1 hS1 hk1 hD1
  generalize H1 = H at hPC hPM hS ⊢
  generalize locs1 = locs at hS ⊢
  refine lv_icmp_eq (tgt := 1376) (x := Int32.ofInt ρC.1) (y := Int32.ofInt ρM.1) hx hb dL_law_705 (by decide) (fun _ => ?_) (fun q => absurd ((pm_eq _ _).mpr hwr) q)
  exact next _ _ ρC.2 ρM.2 hR2 ⟨hPC, hPM, hDC, hDM, hsp⟩ hS
set_option maxHeartbeats 4000000 in
set_option maxRecDepth 100000 in
theorem lc_order {p : Program} {l : Launch} {e : Env} {s : State} {m : MethodId} {below : List Frame} {meth : Method} {c : Code} {H : Heap} {locs : List Loc} {b L i : Nat} {xs : Nat → Int32} {Q : State → Prop} {ls : Array Slot} {k : pm_K} {adC adM : Nat → Nat} {σC σM : pm_M} {Rl : pm_M → pm_M → Prop} (hsp1 : sp_order Rl) (C0 : lw_At p s m meth c b L xs) (hK : va_K k.1 vwCl (pm_tys k) s) (hSf : pm_Sf k (fun q => s.heap.size ≤ q) s s.heap) (hL : L ≤ 3072) (hi : i + 6 ≤ L) (hRl : Rl σC σM) (hW : lw_Wd k adC adM (fun q => s.heap.size ≤ q) σC σM H) (hS : va_S (fun q => s.heap.size ≤ q) s.heap H locs) (hl : lv_has ls 4 [(0, .ref b), (1, .ref (adC 0)), (2, .ref (adM 0)), (3, .int (nI i))])
    (next : ∀ (H1 : Heap) (locs1 : List Loc) (τC τM : pm_M), Rl τC τM → lw_Wd k adC adM (fun q => s.heap.size ≤ q) τC τM H1 → va_S (fun q => s.heap.size ≤ q) s.heap H1 locs1 → W p l e room_1 s m #[Value.ref b] below meth c H1 locs1 600000 7302249 Q (F0 m 1376 ls [])) : W p l e room_1 s m #[Value.ref b] below meth c H locs 600000 7302249 Q (F0 m 710 ls []) := by
  obtain ⟨hPC, hPM, hDC, hDM, hsp⟩ := hW
  obtain ⟨hx, hb, hr, hml, hown, hts, hX, hbl, hlocks, hgv⟩ := id C0
  obtain ⟨x1, hx1⟩ : ∃ y, y = xs (i + 1) := ⟨_, rfl⟩
  obtain ⟨x2, hx2⟩ : ∃ y, y = xs (i + 2) := ⟨_, rfl⟩
  obtain ⟨x3, hx3⟩ : ∃ y, y = xs (i + 3) := ⟨_, rfl⟩
  obtain ⟨x4, hx4⟩ : ∃ y, y = xs (i + 4) := ⟨_, rfl⟩
  obtain ⟨x5, hx5⟩ : ∃ y, y = xs (i + 5) := ⟨_, rfl⟩
  obtain ⟨ρC, ρM, hfC, hfM, hwr, hR2⟩ := hsp1 x1 x2 x3 x4 x5 σC σM hRl
  refine lv_aload_n hx hb dL_law_710 rfl (lv_at hl 1 rfl) ?_
  refine lw_ld (j := 1) C0 hL hi hS hl dL_law_711 dL_law_712 dL_law_713 dL_law_714 dL_law_715 (by decide) (by decide) ?_
  rw [← hx1]
  refine lw_ld (j := 2) C0 hL hi hS hl dL_law_716 dL_law_717 dL_law_718 dL_law_719 dL_law_720 (by decide) (by decide) ?_
  rw [← hx2]
  refine lw_ld (j := 3) C0 hL hi hS hl dL_law_721 dL_law_722 dL_law_723 dL_law_724 dL_law_725 (by decide) (by decide) ?_
  rw [← hx3]
  refine lw_ld (j := 4) C0 hL hi hS hl dL_law_726 dL_law_727 dL_law_728 dL_law_729 dL_law_730 (by decide) (by decide) ?_
  rw [← hx4]
  refine lw_ld (j := 5) C0 hL hi hS hl dL_law_731 dL_law_732 dL_law_733 dL_law_734 dL_law_735 (by decide) (by decide) ?_
  rw [← hx5]
  refine W.eq (g2 := F0 m 736 ls (([pv_i x1.toInt, pv_i x2.toInt, pv_i x3.toInt, pv_i x4.toInt, pv_i x5.toInt].map (pm_cv adC k.2.2.2)).reverse ++ .ref (adC 0) :: [])) (by simp only [List.map_cons, List.map_nil, List.reverse_cons, List.reverse_nil, List.nil_append, List.cons_append, pm_cv, Int32.ofInt_toInt] <;> rfl) ?_
  refine lw_callV (lay := LAYC) (σ2 := ρC.2) (ci := 11) (q := (RX11, TX11, 11)) C0 hK hSf dL_law_736 mk_L_82 lc_0 rfl rfl rfl (Nat.le_of_ble_eq_true rfl) (by decide) (by decide) (tmX11_order hfC) hPC hDC hS hl.1 (fun H1 locs1 hP1 hD1 hk1 hS1 => ?_)
  have hPM := lw_keep hsp hPM hk1
  clear hS hPC
  have hPC := hP1
  have hS := hS1
  have hDC := hD1
  clear hP1 hS1 hk1 hD1
  generalize H1 = H at hPC hPM hS ⊢
  generalize locs1 = locs at hS ⊢
  refine lv_aload_n hx hb dL_law_739 rfl (lv_at hl 2 rfl) ?_
  refine lw_ld (j := 1) C0 hL hi hS hl dL_law_740 dL_law_741 dL_law_742 dL_law_743 dL_law_744 (by decide) (by decide) ?_
  rw [← hx1]
  refine lw_ld (j := 2) C0 hL hi hS hl dL_law_745 dL_law_746 dL_law_747 dL_law_748 dL_law_749 (by decide) (by decide) ?_
  rw [← hx2]
  refine lw_ld (j := 3) C0 hL hi hS hl dL_law_750 dL_law_751 dL_law_752 dL_law_753 dL_law_754 (by decide) (by decide) ?_
  rw [← hx3]
  refine lw_ld (j := 4) C0 hL hi hS hl dL_law_755 dL_law_756 dL_law_757 dL_law_758 dL_law_759 (by decide) (by decide) ?_
  rw [← hx4]
  refine lw_ld (j := 5) C0 hL hi hS hl dL_law_760 dL_law_761 dL_law_762 dL_law_763 dL_law_764 (by decide) (by decide) ?_
  rw [← hx5]
  refine W.eq (g2 := F0 m 765 ls (([pv_i x1.toInt, pv_i x2.toInt, pv_i x3.toInt, pv_i x4.toInt, pv_i x5.toInt].map (pm_cv adM k.2.2.2)).reverse ++ .ref (adM 0) :: [.int (Int32.ofInt ρC.1)])) (by simp only [List.map_cons, List.map_nil, List.reverse_cons, List.reverse_nil, List.nil_append, List.cons_append, pm_cv, Int32.ofInt_toInt] <;> rfl) ?_
  refine lw_callV (lay := LAYM) (σ2 := ρM.2) (ci := 12) (q := (RX12, TX12, 36)) C0 hK hSf dL_law_765 mk_L_86 lm_0 rfl rfl rfl (Nat.le_of_ble_eq_true rfl) (by decide) (by decide) (tmX12_order hfM) hPM hDM hS hl.1 (fun H1 locs1 hP1 hD1 hk1 hS1 => ?_)
  have hPC := lw_keep (fun i j hi hj => (hsp j i hj hi).symm) hPC hk1
  clear hS hPM
  have hPM := hP1
  have hS := hS1
  have hDM := hD1
  clear hP1 hS1 hk1 hD1
  generalize H1 = H at hPC hPM hS ⊢
  generalize locs1 = locs at hS ⊢
  refine lv_icmp_eq (tgt := 1376) (x := Int32.ofInt ρC.1) (y := Int32.ofInt ρM.1) hx hb dL_law_768 (by decide) (fun _ => ?_) (fun q => absurd ((pm_eq _ _).mpr hwr) q)
  exact next _ _ ρC.2 ρM.2 hR2 ⟨hPC, hPM, hDC, hDM, hsp⟩ hS
set_option maxHeartbeats 4000000 in
set_option maxRecDepth 100000 in
theorem lc_fill {p : Program} {l : Launch} {e : Env} {s : State} {m : MethodId} {below : List Frame} {meth : Method} {c : Code} {H : Heap} {locs : List Loc} {b L i : Nat} {xs : Nat → Int32} {Q : State → Prop} {ls : Array Slot} {k : pm_K} {adC adM : Nat → Nat} {σC σM : pm_M} {Rl : pm_M → pm_M → Prop} (hsp1 : sp_fill Rl) (C0 : lw_At p s m meth c b L xs) (hK : va_K k.1 vwCl (pm_tys k) s) (hSf : pm_Sf k (fun q => s.heap.size ≤ q) s s.heap) (hL : L ≤ 3072) (hi : i + 6 ≤ L) (hRl : Rl σC σM) (hW : lw_Wd k adC adM (fun q => s.heap.size ≤ q) σC σM H) (hS : va_S (fun q => s.heap.size ≤ q) s.heap H locs) (hl : lv_has ls 4 [(0, .ref b), (1, .ref (adC 0)), (2, .ref (adM 0)), (3, .int (nI i))])
    (next : ∀ (H1 : Heap) (locs1 : List Loc) (τC τM : pm_M), Rl τC τM → lw_Wd k adC adM (fun q => s.heap.size ≤ q) τC τM H1 → va_S (fun q => s.heap.size ≤ q) s.heap H1 locs1 → W p l e room_1 s m #[Value.ref b] below meth c H1 locs1 600000 7302249 Q (F0 m 1376 ls [])) : W p l e room_1 s m #[Value.ref b] below meth c H locs 600000 7302249 Q (F0 m 773 ls []) := by
  obtain ⟨hPC, hPM, hDC, hDM, hsp⟩ := hW
  obtain ⟨hx, hb, hr, hml, hown, hts, hX, hbl, hlocks, hgv⟩ := id C0
  obtain ⟨x1, hx1⟩ : ∃ y, y = xs (i + 1) := ⟨_, rfl⟩
  obtain ⟨ρC, ρM, hfC, hfM, hwr, hR2⟩ := hsp1 x1 σC σM hRl
  refine lv_aload_n hx hb dL_law_773 rfl (lv_at hl 1 rfl) ?_
  refine lw_ld (j := 1) C0 hL hi hS hl dL_law_774 dL_law_775 dL_law_776 dL_law_777 dL_law_778 (by decide) (by decide) ?_
  rw [← hx1]
  refine W.eq (g2 := F0 m 779 ls (([pv_i x1.toInt].map (pm_cv adC k.2.2.2)).reverse ++ .ref (adC 0) :: [])) (by simp only [List.map_cons, List.map_nil, List.reverse_cons, List.reverse_nil, List.nil_append, List.cons_append, pm_cv, Int32.ofInt_toInt] <;> rfl) ?_
  refine lw_callV (lay := LAYC) (σ2 := ρC.2) (ci := 11) (q := (RX11, TX11, 11)) C0 hK hSf dL_law_779 mk_L_87 lc_0 rfl rfl rfl (Nat.le_of_ble_eq_true rfl) (by decide) (by decide) (tmX11_fill hfC) hPC hDC hS hl.1 (fun H1 locs1 hP1 hD1 hk1 hS1 => ?_)
  have hPM := lw_keep hsp hPM hk1
  clear hS hPC
  have hPC := hP1
  have hS := hS1
  have hDC := hD1
  clear hP1 hS1 hk1 hD1
  generalize H1 = H at hPC hPM hS ⊢
  generalize locs1 = locs at hS ⊢
  refine lv_aload_n hx hb dL_law_782 rfl (lv_at hl 2 rfl) ?_
  refine lw_ld (j := 1) C0 hL hi hS hl dL_law_783 dL_law_784 dL_law_785 dL_law_786 dL_law_787 (by decide) (by decide) ?_
  rw [← hx1]
  refine W.eq (g2 := F0 m 788 ls (([pv_i x1.toInt].map (pm_cv adM k.2.2.2)).reverse ++ .ref (adM 0) :: [.int (Int32.ofInt ρC.1)])) (by simp only [List.map_cons, List.map_nil, List.reverse_cons, List.reverse_nil, List.nil_append, List.cons_append, pm_cv, Int32.ofInt_toInt] <;> rfl) ?_
  refine lw_callV (lay := LAYM) (σ2 := ρM.2) (ci := 12) (q := (RX12, TX12, 36)) C0 hK hSf dL_law_788 mk_L_90 lm_0 rfl rfl rfl (Nat.le_of_ble_eq_true rfl) (by decide) (by decide) (tmX12_fill hfM) hPM hDM hS hl.1 (fun H1 locs1 hP1 hD1 hk1 hS1 => ?_)
  have hPC := lw_keep (fun i j hi hj => (hsp j i hj hi).symm) hPC hk1
  clear hS hPM
  have hPM := hP1
  have hS := hS1
  have hDM := hD1
  clear hP1 hS1 hk1 hD1
  generalize H1 = H at hPC hPM hS ⊢
  generalize locs1 = locs at hS ⊢
  refine lv_icmp_eq (tgt := 1376) (x := Int32.ofInt ρC.1) (y := Int32.ofInt ρM.1) hx hb dL_law_791 (by decide) (fun _ => ?_) (fun q => absurd ((pm_eq _ _).mpr hwr) q)
  exact next _ _ ρC.2 ρM.2 hR2 ⟨hPC, hPM, hDC, hDM, hsp⟩ hS
