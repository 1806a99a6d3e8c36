theorem pm_blankc {k : pm_K} {ad : Nat → Nat} {ci : Nat} {fs : List pm_F} (h : fs.all (fun f => match f with | some (some _) => false | _ => true) = true) : pm_cell k ad (fun _ => 0) (ps_o ci fs) = .inr (ci, fs.map (fun f => match f with | none => .int 0 | some _ => .null)) := by
  show Sum.inr (ci, fs.mapIdx (fun j f => pm_fld ad (fun _ => 0) j f)) = _
  congr 2
  apply List.ext_getElem?
  intro i
  rw [List.getElem?_mapIdx, List.getElem?_map]
  cases hi : fs[i]? with
  | none => rfl
  | some f =>
    have := List.all_eq_true.mp h f (List.mem_of_getElem? hi)
    rcases f with _ | _ | r
    · rfl
    · rfl
    · simp at this
theorem pm_W_one {k : pm_K} {ad : Nat → Nat} {S : pm_S} {σ : pm_M} : pm_W k ad [S] σ = [(ad 0, pm_cell k ad (σ 0) S)] := by
  unfold pm_W
  rw [List.mapIdx_cons, List.mapIdx_nil]
theorem lw_splitP {D : va_G} {cl : List vw_C} {w1 w2 : va_W} {H : Heap} (h : va_P D cl (w1 ++ w2) H) : va_P D cl w1 H ∧ va_P D cl w2 H := by
  refine ⟨fun i x hx => h i x ?_, fun i x hx => h (w1.length + i) x ?_⟩
  · rw [List.getElem?_append_left (List.getElem?_eq_some_iff.mp hx).1]; exact hx
  · rw [List.getElem?_append_right (by omega), show w1.length + i - w1.length = i by omega]; exact hx
theorem lw_splitD {A : Nat → Prop} {w1 w2 : va_W} (h : va_D A (w1 ++ w2)) : va_D A w1 ∧ va_D A w2 ∧ ∀ (i j : Nat) (x y : Nat × va_E), w1[i]? = some x → w2[j]? = some y → x.1 ≠ y.1 := by
  have l1 : ∀ (i : Nat) (x : Nat × va_E), w1[i]? = some x → (w1 ++ w2)[i]? = some x ∧ i < w1.length := fun i x hx => ⟨by rw [List.getElem?_append_left (List.getElem?_eq_some_iff.mp hx).1]; exact hx, (List.getElem?_eq_some_iff.mp hx).1⟩
  have l2 : ∀ (i : Nat) (x : Nat × va_E), w2[i]? = some x → (w1 ++ w2)[w1.length + i]? = some x := fun i x hx => by rw [List.getElem?_append_right (by omega), show w1.length + i - w1.length = i by omega]; exact hx
  refine ⟨⟨fun i j x y hx hy e => h.1 i j x y (l1 i x hx).1 (l1 j y hy).1 e, fun i x hx => h.2 i x (l1 i x hx).1⟩, ⟨fun i j x y hx hy e => by
    have := h.1 _ _ x y (l2 i x hx) (l2 j y hy) e
    omega, fun i x hx => h.2 _ x (l2 i x hx)⟩, fun i j x y hx hy e => ?_⟩
  have h1 := h.1 _ _ x y (l1 i x hx).1 (l2 j y hy) e
  have h2 := (l1 i x hx).2
  omega
def sg_0 : pm_M := fun _ _ => 0
theorem lw_wl (n : Nat) : pm_zero n sg_0 := fun _ _ _ => rfl
set_option maxHeartbeats 4000000 in
set_option maxRecDepth 100000 in
/-- the law from its entry, once a relation is kept -/
theorem whole_open {p : Program} {e : Env} {s : State} {m : MethodId} {below : List Frame} {meth : Method} {c : Code} (l : Launch) {b L : Nat} {xs : Nat → Int32} (hL : L ≤ 3072) (C0 : lw_At p s m meth c b L xs) {Rl : pm_M → pm_M → Prop} (hst : pm_Steps Rl) (h0 : Rl (sgC_X11_init0 sg_0) (sgM_X12_init0 sg_0)) : W p l e room_1 s m #[Value.ref b] below meth c s.heap [] 0 0 (lw_Z below #[Value.ref b] s) (entryFrame m ([Value.ref b] : List Value).toArray 4) := by
  obtain ⟨hx, hb, hr, hml, hown, hts, hX, hbl, hlocks, hgv⟩ := id C0
  obtain ⟨k, hK, hSf⟩ := lw_k C0
  have hA : ∀ q : Nat, s.heap.size ≤ q → (fun q : Nat => s.heap.size ≤ q) q := fun _ h => h
  have hl := lv_entry ([.ref b]) (n := 4) (Nat.le_of_ble_eq_true rfl)
  rw [lg_entry_eq]
  generalize (lg_sl ([.ref b]) ++ List.replicate (4 - (lg_sl ([.ref b])).length) Slot.unset).toArray = ls at hl ⊢
  have hl : lv_has ls 4 [(0, .ref b)] := hl
  have hS : va_S (fun q : Nat => s.heap.size ≤ q) s.heap s.heap [] := va_S.rf
  have hP : va_P k.1 vwCl [] s.heap := fun k q h => by simp at h
  have hD : va_D (fun q : Nat => s.heap.size ≤ q) [] := ⟨fun i j p q h => by simp at h, fun k q h => by simp at h⟩
  refine va_new (D := k.1) (ci := 11) (fs := [.null, .null, .null, .null, .null, .null, .null, .null, .null, .int 0, .int 0]) (C := RX11) (T := TX11) (N := 11) hx hb hts (fun w h => lw_inG (cok_X11.1 w h)) tyX11 tyX11_ok hown (hts _ (lw_inG nwl_7.1)) (hts _ (lw_inG nwl_7.2.1)) (hts _ (lw_inG nwl_7.2.2)) hK hP hD hS hA rfl (by decide) (by decide) (by decide) dL_law_0 (fun q0 H hP hD hS => ?_)
  have hP : va_P k.1 vwCl (pm_W k (fun _ => q0) LYC0 sg_0) H := hP
  have hD : va_D (fun q : Nat => s.heap.size ≤ q) (pm_W k (fun _ => q0) LYC0 sg_0) := hD
  refine lv_dup hx hb dL_law_3 rfl ?_
  refine lw_callI (As := []) (t := 0) (ad := fun _ => q0) (lay := LYC0) (lay2 := LAYC) (rest := [.ref q0]) C0 hK hSf dL_law_4 mi_L_9 rfl (Nat.le_of_ble_eq_true rfl) (by decide) (by decide) (by decide +kernel) (by decide +kernel) (ctC_X11_init0 (lw_wl 1)) hP hD hS hl.1 (fun adC H1 locs1 hadC hPC hDC _ _ hS1 => ?_)
  have e0 : adC 0 = q0 := hadC 0 (by decide)
  refine W.widen (k := 94) (n := 100000) (by decide +kernel) (by decide +kernel) ?_
  refine lv_astore_n (lv' := [(1, .ref q0), (0, .ref b)]) hx hb dL_law_7 rfl hl (by decide) rfl (fun ls hl => ?_)
  clear hP hD hS
  refine va_new (D := k.1) (ci := 12) (fs := [.null, .null, .null, .null, .null, .null, .null, .null, .null, .null, .null, .null, .null, .null, .null, .int 0, .int 0, .int 0, .int 0, .int 0, .int 0, .null, .null, .null, .null, .null, .null, .null, .null, .null, .null, .null, .int 0, .null, .int 0, .int 0]) (C := RX12) (T := TX12) (N := 36) hx hb hts (fun w h => lw_inG (cok_X12.1 w h)) tyX12 tyX12_ok hown (hts _ (lw_inG nwl_10.1)) (hts _ (lw_inG nwl_10.2.1)) (hts _ (lw_inG nwl_10.2.2)) hK hPC hDC hS1 hA rfl (by decide +kernel) (by decide +kernel) (by decide +kernel) dL_law_8 (fun q1 H2 hP hD hS => ?_)
  have eM : ([(q1, .inr (12, [.null, .null, .null, .null, .null, .null, .null, .null, .null, .null, .null, .null, .null, .null, .null, .int 0, .int 0, .int 0, .int 0, .int 0, .int 0, .null, .null, .null, .null, .null, .null, .null, .null, .null, .null, .null, .int 0, .null, .int 0, .int 0]))] : va_W) = pm_W k (fun _ => q1) LYM0 sg_0 := by
    unfold LYM0
    rw [pm_W_one]
    have e9 : pm_cell k (fun _ => q1) (sg_0 0) (ps_o 12 [some none, some none, some none, some none, some none, some none, some none, some none, some none, some none, some none, some none, some none, some none, some none, none, none, none, none, none, none, some none, some none, some none, some none, some none, some none, some none, some none, some none, some none, some none, none, some none, none, none]) = _ := pm_blankc rfl
    rw [e9]
    rfl
  rw [eM] at hP hD
  obtain ⟨hPC, hP1⟩ := lw_splitP hP
  obtain ⟨hDC, hD1, hap⟩ := lw_splitD hD
  have hne : ∀ i, i < LAYC.length → adC i ≠ q1 := by
    intro i hi
    obtain ⟨w, hw⟩ := pm_W_len k adC LAYC (sgC_X11_init0 sg_0) hi
    obtain ⟨w2, hw2⟩ := pm_W_len k (fun _ => q1) LYM0 sg_0 (i := 0) (by decide)
    exact hap i 0 _ _ hw hw2
  refine lv_dup hx hb dL_law_11 rfl ?_
  refine lw_callI (As := []) (t := 0) (ad := fun _ => q1) (lay := LYM0) (lay2 := LAYM) (rest := [.ref q1]) C0 hK hSf dL_law_12 mi_L_12 rfl (Nat.le_of_ble_eq_true rfl) (by decide) (by decide) (by decide +kernel) (by decide +kernel) (ctM_X12_init0 (lw_wl 1)) hP1 hD1 hS hl.1 (fun adM H3 locs3 hadM hPM hDM hnew hk3 hS3 => ?_)
  have e1 : adM 0 = q1 := hadM 0 (by decide)
  refine W.widen (k := 600000) (n := 7302249) (by decide +kernel) (by decide +kernel) ?_
  refine lv_astore_n (lv' := [(2, .ref q1), (1, .ref q0), (0, .ref b)]) hx hb dL_law_15 rfl hl (by decide) rfl (fun ls hl => ?_)
  refine lv_iconst (v := 0) hx hb dL_law_16 (by decide) ?_
  refine lv_istore_n (lv' := [(3, .int 0), (2, .ref q1), (1, .ref q0), (0, .ref b)]) hx hb dL_law_17 rfl hl (by decide) rfl (fun ls hl => ?_)
  have hsep : ∀ i j, i < LAYC.length → j < LAYM.length → adC i ≠ adM j := by
    intro i j hi hj e2
    obtain ⟨w, hw⟩ := pm_W_len k adC LAYC (sgC_X11_init0 sg_0) hi
    rcases hnew j hj with ⟨j0, h1, h2⟩ | h1
    · rw [h2] at e2
      exact hne i hi e2
    · have h4 : adC i < H2.size := (hPC i _ hw).lt
      omega
  have hPC3 : va_P k.1 vwCl (pm_W k adC LAYC (sgC_X11_init0 sg_0)) H3 := hPC.kept (fun i x hx => by
    have h1 := pm_W_adr hx
    exact hk3 x.1 ((hPC i x hx).lt) (fun j hj e2 => hne i h1.2 (by rw [← h1.1]; exact e2.symm)))
  exact lw_loop hst C0 hK hSf hL 600 0 (by omega) (by omega) _ _ H3 locs3 ls h0 ⟨hPC3, hPM, hDC, hDM, hsep⟩ hS3 (by rw [e0, e1]; exact lv_sub hl [3, 2, 1, 0] rfl)
