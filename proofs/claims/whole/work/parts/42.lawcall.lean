/-! ===== the law: calls, over one of its two worlds; the other stays ===== -/
theorem pm_W_adr {k : pm_K} {ad : Nat → Nat} {lay : List pm_S} {σ : pm_M} {i : Nat} {x : Nat × va_E} (h : (pm_W k ad lay σ)[i]? = some x) : x.1 = ad i ∧ i < lay.length := by
  unfold pm_W at h
  rw [List.getElem?_mapIdx] at h
  cases hi : lay[i]? with
  | none => rw [hi] at h; cases h
  | some S => rw [hi] at h; cases h; exact ⟨rfl, (List.getElem?_eq_some_iff.mp hi).1⟩
theorem pm_W_len (k : pm_K) (ad : Nat → Nat) (lay : List pm_S) (σ : pm_M) {i : Nat} (h : i < lay.length) : ∃ e, (pm_W k ad lay σ)[i]? = some (ad i, e) := ⟨_, pm_W_at (List.getElem?_eq_getElem h)⟩
theorem pm_callF {p : Program} {l : Launch} {e : Env} {R : Room} {s : State} {m : MethodId} {args : Array Value} {below : List Frame} {meth : Method} {c : Code} {H : Heap} {locs : List Loc} {cells slots : Nat} {Q : State → Prop} {pc : Nat} {ls : Array Slot} {rest st0 : List Value} {a : Array Value} {A A1 free : Nat → Prop} {mc ms n0 : Nat} {k : pm_K} {ad : Nat → Nat} {r2 : Option pm_V} {lay2 : List pm_S} {σ2 : pm_M}
    (hr : va_Run p l e R s m args below meth c H locs cells slots mc ms (F0 m pc ls st0) rest (pm_Qc k ad n0 r2 lay2 σ2 A1 a) free) (hS : va_S A s.heap H locs) (hA : ∀ q, q < H.size → A1 q → A q) (hf : ∀ q, free q → A q)
    (kk : ∀ (ad' : Nat → Nat) (H1 : Heap) (locs1 : List Loc), (∀ c, (c < n0 ∨ lay2.length ≤ c) → ad' c = ad c) → va_P k.1 vwCl (pm_W k ad' lay2 σ2) H1 → va_D A1 (pm_W k ad' lay2 σ2) → H.size ≤ H1.size → (∀ q : Nat, q < H.size → ¬ A1 q → H1[q]? = H[q]?) → va_S A s.heap H1 locs1 → W p l e R s m args below meth c H1 locs1 (cells + mc) (slots + ms) Q (F0 m (pc + 3) ls ((r2.map (pm_cv ad' k.2.2.2)).toList ++ rest))) : W p l e R s m args below meth c H locs cells slots Q (F0 m pc ls st0) := by
  intro T hT X
  obtain ⟨v, st₀, t, T', L, h0, X', hL, e1, e2, ⟨⟨ad', had, hv, hP1, hK1, hD1⟩, hz, hk⟩, st⟩ := hr T hT X
  cases hv
  rw [h0] at hz hk
  obtain ⟨t2, a1, b1⟩ := kk ad' T'.heap (locs ++ L) had (by rw [e1]; exact hP1) hD1 (by rw [e1]; exact hz) (fun q h1 h2 => by rw [e1]; exact hk q h1 h2)
    ⟨Nat.le_trans hS.1 (by rw [e1]; exact hz), fun q h1 h2 => by rw [e1, hk q (Nat.lt_of_lt_of_le h1 hS.1) (fun z => h2 (hA q (Nat.lt_of_lt_of_le h1 hS.1) z))]; exact hS.2.1 q h1 h2, fun q hq => by
      rcases List.mem_append.mp hq with h | h
      · exact hS.2.2 q h
      · exact hf _ (hL q h)⟩ T' rfl X'
  exact ⟨t2, st t2 a1, b1⟩
section LC
variable {p : Program} {l : Launch} {e : Env} {s : State} {m : MethodId} {below : List Frame} {meth : Method} {c : Code} {H : Heap} {locs : List Loc} {cells slots b L : Nat} {xs : Nat → Int32} {Q : State → Prop} {pc : Nat} {ls : Array Slot} {rest : List Value} {k : pm_K} {ad : Nat → Nat} {lay lay2 : List pm_S} {σ σ2 : pm_M} {r2 : Option pm_V} {md2 : pm_D} {d2 lo2 n idx t : Nat} {As : List pm_V}
theorem lw_A1 {A : Nat → Prop} (hD : va_D A (pm_W k ad lay σ)) (hS : va_S A s.heap H locs) (hA : ∀ q, s.heap.size ≤ q → A q) : ∀ q, va_A (pm_W k ad lay σ) H.size q → A q := by
  intro q hq
  rcases hq with ⟨i, w, hi⟩ | hq
  · exact hD.2 i _ hi
  · exact hA q (Nat.le_trans hS.1 hq)
theorem lw_pre {A : Nat → Prop} {av : List pm_V} (hK : va_K k.1 vwCl (pm_tys k) s) (hSf : pm_Sf k A s s.heap) (hP : va_P k.1 vwCl (pm_W k ad lay σ) H) (hD : va_D A (pm_W k ad lay σ)) (hS : va_S A s.heap H locs) : ∀ U : State, U.heap = H → s.WarmedH U.vm → pm_Pc k ad lay σ H.size av (av.map (pm_cv ad k.2.2.2)).toArray U := by
  intro U hU hW
  refine ⟨rfl, by rw [hU], by rw [hU]; exact hP, va_K.moved hW.alike hK, hD.weaken (fun _ _ _ _ => trivial), ?_⟩
  refine pm_Sf.to hSf hS (fun q hlt hq => ?_) hW hU
  rcases hq with ⟨i, w, hi⟩ | hq
  · exact hD.2 i _ hi
  · omega
/-- a method of one of the two systems -/
theorem lw_callV {ci : Nat} {q : vw_C} {fs : List pm_F} (C0 : lw_At p s m meth c b L xs) (hK : va_K k.1 vwCl (pm_tys k) s) (hSf : pm_Sf k (fun q => s.heap.size ≤ q) s s.heap) (hd : decode code pc = .ok (.invokevirtual idx, 3)) (hw : pm_MV R_law idx md2 n) (hy : lay[t]? = some (ps_o ci fs)) (hc : vwCl[ci]? = some q) (hq : q.1 = md2.1.cls) (hn : As.length = n) (h8 : (rest.map fun v => v.category).sum ≤ 8) (hf : d2 + 1 ≤ 10) (hlo : 8 + (md2.2.2.1 + 11) + lo2 ≤ 378)
    (hC : pm_C md2 d2 lo2 (pv_r t :: As) lay σ r2 lay σ2) (hP : va_P k.1 vwCl (pm_W k ad lay σ) H) (hD : va_D (fun q => s.heap.size ≤ q) (pm_W k ad lay σ)) (hS : va_S (fun q => s.heap.size ≤ q) s.heap H locs) (hls : ls.size = 4)
    (kk : ∀ (H1 : Heap) (locs1 : List Loc), va_P k.1 vwCl (pm_W k ad lay σ2) H1 → va_D (fun q => s.heap.size ≤ q) (pm_W k ad lay σ2) → (∀ q : Nat, q < H.size → (∀ i, i < lay.length → ad i ≠ q) → H1[q]? = H[q]?) → va_S (fun q => s.heap.size ≤ q) s.heap H1 locs1 → W p l e room_1 s m #[Value.ref b] below meth c H1 locs1 600000 7302249 Q (F0 m (pc + 3) ls ((r2.map (pm_cv ad k.2.2.2)).toList ++ rest))) :
    W p l e room_1 s m #[Value.ref b] below meth c H locs 600000 7302249 Q (F0 m pc ls ((As.map (pm_cv ad k.2.2.2)).reverse ++ .ref (ad t) :: rest)) := by
  obtain ⟨hx, hb, hr, hml, hown, hts, hX, hbl, hlocks, hgv⟩ := C0
  obtain ⟨⟨w1, w2, w3⟩, w4, w5, w6⟩ := hw
  have hG : GoodIn lw_tbl (wsV R_law idx md2.1.cls md2.1 (pm_wds md2)) := by
    intro w h
    have hg : w ∈ pm_G := by
      simp only [wsV, pm_wds, List.mem_append, List.mem_cons, List.not_mem_nil, or_false] at h
      rcases h with (rfl | rfl | rfl | rfl) | rfl | h <;> assumption
    exact ⟨lw_inG hg, good_of_word (List.mem_filter.mp hg).2⟩
  have hA1 := lw_A1 hD hS (fun _ h => h)
  have hM := hC.2 l k ad H.size
  rw [Nat.sub_self, Nat.sub_self] at hM
  have hr2 : va_Run p l e room_1 s m #[Value.ref b] below meth c H locs 600000 7302249 0 0 (F0 m pc ls ((As.map (pm_cv ad k.2.2.2)).reverse ++ .ref (ad t) :: rest)) rest (pm_Qc k ad lay.length r2 lay σ2 (va_A (pm_W k ad lay σ) H.size) (Value.ref (ad t) :: As.map (pm_cv ad k.2.2.2)).toArray) (va_A (pm_W k ad lay σ) H.size) :=
    va_runV (As := As.map (pm_cv ad k.2.2.2)) (rest := rest) (nL := 4) ⟨hx, hb, hml, hown, hts⟩ hM (cwV n hts hG rfl (by unfold pm_rm; exact Nat.sub_self _) (by unfold pm_rm; exact Nat.sub_self _) ⟨rfl, w3⟩ ⟨hf, hlo⟩)
      ⟨pm_blind, by rw [← hq]; exact va_recv hK hP hc (pm_W_at hy), lw_pre (av := pv_r t :: As) hK hSf hP hD hS⟩ rfl (by rw [List.length_map]; exact hn) hls rfl (lv_room h8) hd ⟨Nat.le_refl _, Nat.le_refl _⟩
  refine pm_callF hr2 hS (fun q _ h => hA1 q h) hA1 (fun ad' H1 locs1 had hP1 hD1 hz hk hS1 => ?_)
  have ea : ad' = ad := funext fun c => had c (Nat.lt_or_ge c lay.length)
  subst ea
  refine kk H1 locs1 hP1 (hD1.weaken (fun _ _ _ h => hA1 _ h)) (fun q0 hq0 hne => hk q0 hq0 (fun z => ?_)) hS1
  rcases z with ⟨i, w, hi⟩ | z
  · have := pm_W_adr hi
    exact hne i this.2 this.1.symm
  · omega
/-- a constructor -/
theorem lw_callI (C0 : lw_At p s m meth c b L xs) (hK : va_K k.1 vwCl (pm_tys k) s) (hSf : pm_Sf k (fun q => s.heap.size ≤ q) s s.heap) (hd : decode code pc = .ok (.invokespecial idx, 3)) (hw : pm_MI R_law idx md2 n) (hn : As.length = n) (h8 : (rest.map fun v => v.category).sum ≤ 8) (hf : d2 + 1 ≤ 10) (hlo : 8 + (md2.2.2.1 + 11) + lo2 ≤ 378) (hcl : cells + (lay2.length - lay.length) ≤ 600000) (hsl : slots + (pm_sl lay2 - pm_sl lay) ≤ 7302249)
    (hC : pm_C md2 d2 lo2 (pv_r t :: As) lay σ none lay2 σ2) (hP : va_P k.1 vwCl (pm_W k ad lay σ) H) (hD : va_D (fun q => s.heap.size ≤ q) (pm_W k ad lay σ)) (hS : va_S (fun q => s.heap.size ≤ q) s.heap H locs) (hls : ls.size = 4)
    (kk : ∀ (ad' : Nat → Nat) (H1 : Heap) (locs1 : List Loc), (∀ c, c < lay.length → ad' c = ad c) → va_P k.1 vwCl (pm_W k ad' lay2 σ2) H1 → va_D (fun q => s.heap.size ≤ q) (pm_W k ad' lay2 σ2) → (∀ i, i < lay2.length → (∃ j, j < lay.length ∧ ad' i = ad j) ∨ H.size ≤ ad' i) → (∀ q : Nat, q < H.size → (∀ i, i < lay.length → ad i ≠ q) → H1[q]? = H[q]?) → va_S (fun q => s.heap.size ≤ q) s.heap H1 locs1 → W p l e room_1 s m #[Value.ref b] below meth c H1 locs1 (cells + (lay2.length - lay.length)) (slots + (pm_sl lay2 - pm_sl lay)) Q (F0 m (pc + 3) ls rest)) :
    W p l e room_1 s m #[Value.ref b] below meth c H locs cells slots Q (F0 m pc ls ((As.map (pm_cv ad k.2.2.2)).reverse ++ .ref (ad t) :: rest)) := by
  obtain ⟨hx, hb, hr, hml, hown, hts, hX, hbl, hlocks, hgv⟩ := C0
  obtain ⟨⟨w1, w2, w3⟩, w4, w5, w6, w7⟩ := hw
  have hA1 := lw_A1 hD hS (fun _ h => h)
  have hG : GoodIn lw_tbl (pm_wds md2) := by
    intro w h
    have hg : w ∈ pm_G := by
      rcases List.mem_cons.mp h with rfl | h
      · exact w2
      · exact h
    exact ⟨lw_inG hg, good_of_word (List.mem_filter.mp hg).2⟩
  have hr2 : va_Run p l e room_1 s m #[Value.ref b] below meth c H locs cells slots (lay2.length - lay.length) (pm_sl lay2 - pm_sl lay) (F0 m pc ls ((As.map (pm_cv ad k.2.2.2)).reverse ++ .ref (ad t) :: rest)) rest (pm_Qc k ad lay.length none lay2 σ2 (va_A (pm_W k ad lay σ) H.size) (Value.ref (ad t) :: As.map (pm_cv ad k.2.2.2)).toArray) (va_A (pm_W k ad lay σ) H.size) :=
    va_runI (As := As.map (pm_cv ad k.2.2.2)) (rest := rest) (nL := 4) ⟨hx, hb, hml, hown, hts⟩ (hC.2 l k ad H.size) (cwI n hts hG (by unfold pm_wds; rw [w7]) rfl rfl (hts _ (lw_inG w1)) (hts _ (lw_inG w4)) (hts _ (lw_inG w5)) w6 w3 ⟨hf, hlo⟩)
      ⟨pm_blind, lw_pre (av := pv_r t :: As) hK hSf hP hD hS⟩ rfl (by rw [List.length_map]; exact hn) hls rfl (lv_room h8) hd ⟨hcl, hsl⟩
  refine pm_callF hr2 hS (fun q _ h => hA1 q h) hA1 (fun ad' H1 locs1 had hP1 hD1 hz hk hS1 => ?_)
  refine kk ad' H1 locs1 (fun c h => had c (Or.inl h)) hP1 (hD1.weaken (fun _ _ _ h => hA1 _ h)) (fun i hi => ?_) (fun q0 hq0 hne => hk q0 hq0 (fun z => ?_)) hS1
  · obtain ⟨w, hw⟩ := pm_W_len k ad' lay2 σ2 hi
    rcases hD1.2 i _ hw with ⟨j, w', hj⟩ | h
    · have := pm_W_adr hj
      exact Or.inl ⟨j, this.2, this.1⟩
    · exact Or.inr h
  · rcases z with ⟨i, w, hi⟩ | z
    · have := pm_W_adr hi
      exact hne i this.2 this.1.symm
    · omega
end LC
