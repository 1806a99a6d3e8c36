/-! ===== returns, entry, calls ===== -/
section PE
variable {md : pm_D} {d lo : Nat} {lay0 lay lay' : List pm_S} {r : Option pm_V} {σ σ' : pm_M} {pc : Nat} {L : List (Option pm_V)} {S : List pm_V}
theorem pr_iret {x : Int} (hd : decode md.2.1 pc = .ok (.ireturn, 1)) (hr : md.2.2.2 = some .int) : pm_J md d lo lay0 (some (pv_i x)) lay σ pc L [pv_i x] lay σ := by
  refine ⟨⟨Nat.le_refl _, Nat.le_refl _⟩, fun p l e s m args below meth c k A ad0 ad H locs ls X h1 h2 h3 hP hD hS hl => ?_⟩
  exact W.iret X.1 X.2.1 (X.2.2.1.trans hr) (fun t ht hW => ⟨⟨ad, h1, rfl, by rw [ht]; exact hP, va_K.moved hW.alike X.2.2.2.2.2.2.2.2.2.2, hD⟩, hS.F ht⟩) hS.2.2 hd X.2.2.2.2.2.2.1
theorem pr_zret {x : Int} (hd : decode md.2.1 pc = .ok (.ireturn, 1)) (hr : md.2.2.2 = some .boolean) (hz : x = 0 ∨ x = 1) : pm_J md d lo lay0 (some (pv_i x)) lay σ pc L [pv_i x] lay σ := by
  refine ⟨⟨Nat.le_refl _, Nat.le_refl _⟩, fun p l e s m args below meth c k A ad0 ad H locs ls X h1 h2 h3 hP hD hS hl => ?_⟩
  have hn : narrow .boolean (.int (Int32.ofInt x)) = .int (Int32.ofInt x) := by
    rcases hz with rfl | rfl <;> decide
  exact W.zret X.1 X.2.1 (X.2.2.1.trans hr) hn (fun t ht hW => ⟨⟨ad, h1, rfl, by rw [ht]; exact hP, va_K.moved hW.alike X.2.2.2.2.2.2.2.2.2.2, hD⟩, hS.F ht⟩) hS.2.2 hd X.2.2.2.2.2.2.1
theorem pr_vret (hd : decode md.2.1 pc = .ok (.return_, 1)) (hr : md.2.2.2 = none) : pm_J md d lo lay0 none lay σ pc L [] lay σ := by
  refine ⟨⟨Nat.le_refl _, Nat.le_refl _⟩, fun p l e s m args below meth c k A ad0 ad H locs ls X h1 h2 h3 hP hD hS hl => ?_⟩
  exact W.vret X.1 X.2.1 (X.2.2.1.trans hr) (fun t ht hW => ⟨⟨ad, h1, rfl, by rw [ht]; exact hP, va_K.moved hW.alike X.2.2.2.2.2.2.2.2.2.2, hD⟩, hS.F ht⟩) hS.2.2 hd X.2.2.2.2.2.2.1
end PE
theorem pm_args (vs : List Value) (h : ∀ v ∈ vs, v.category = 1) : ∀ (i j : Nat) (v : Value), vs[j]? = some v → (i + j, v) ∈ lv_args i vs := by
  induction vs with
  | nil => intro i j v hv; cases hv
  | cons w vs ih =>
    intro i j v hv
    have hc : w.category = 1 := h w List.mem_cons_self
    unfold lv_args
    cases j with
    | zero => cases hv; exact List.mem_cons_self
    | succ j =>
      refine List.mem_cons_of_mem _ ?_
      have h2 := ih (fun v hv => h v (List.mem_cons_of_mem _ hv)) (i + 1) j v hv
      rw [if_neg (by rw [hc]; decide)]
      rw [show i + (j + 1) = i + 1 + j by omega]
      exact h2
def pm_in0 (av : List pm_V) (n : Nat) : List (Option pm_V) := av.map some ++ List.replicate (n - av.length) none
theorem pm_sl1 (vs : List Value) (h : ∀ v ∈ vs, v.category = 1) : (lg_sl vs).length = vs.length := by
  induction vs with
  | nil => rfl
  | cons w vs ih =>
    have hc : w.category = 1 := h w List.mem_cons_self
    have h2 := ih (fun v hv => h v (List.mem_cons_of_mem _ hv))
    simp only [lg_sl, List.flatMap_cons, List.length_append, List.length_cons] at h2 ⊢
    rw [h2, if_neg (by rw [hc]; decide)]
    simp [Nat.add_comm]
theorem pm_C.of {md : pm_D} {d lo : Nat} {av : List pm_V} {lay lay' : List pm_S} {σ σ' : pm_M} {r : Option pm_V} (hpl : plainName md.1.cls = true) (hc : av.all (fun v => pm_ct v == 1) = true) (hn : av.length ≤ md.2.2.1)
    (h : pm_J md d lo lay r lay' σ' 0 (pm_in0 av md.2.2.1) [] lay σ) : pm_C md d lo av lay σ r lay' σ' := by
  refine ⟨h.1, fun l k ad sz => ?_⟩
  refine Met.ofW (cc := md.2.1) (maxL := md.2.2.1) (ret := md.2.2.2) hpl rfl ?_
  intro p e s m args below meth c s₁ B hml hv
  obtain ⟨rfl, hsz, hP, hK, hD0, hSf⟩ := hv
  have hts := atoms_spec (ws := pm_wds md) B.pre
  subst hsz
  have hcat : ∀ v ∈ av.map (pm_cv ad k.2.2.2), v.category = 1 := by
    intro v hv
    obtain ⟨u, hu, rfl⟩ := List.mem_map.mp hv
    rw [pm_ct_eq]
    simpa using List.all_eq_true.mp hc u hu
  have hl := lv_entry (av.map (pm_cv ad k.2.2.2)) (n := md.2.2.1) (by rw [pm_sl1 _ hcat, List.length_map]; exact hn)
  rw [lg_entry_eq]
  generalize (lg_sl (av.map (pm_cv ad k.2.2.2)) ++ List.replicate (md.2.2.1 - (lg_sl (av.map (pm_cv ad k.2.2.2))).length) Slot.unset).toArray = ls at hl ⊢
  have hl2 : lv_has ls md.2.2.1 (pm_lc ad k.2.2.2 (pm_in0 av md.2.2.1)) := by
    refine pm_lc_sub hl (fun q hq => ?_)
    obtain ⟨v, h1, h2⟩ := pm_lc_mem.mp hq
    unfold pm_in0 at h1
    by_cases hi : q.1 < av.length
    · rw [List.getElem?_append_left (by rw [List.length_map]; exact hi), List.getElem?_map] at h1
      have h3 := pm_args (av.map (pm_cv ad k.2.2.2)) hcat 0 q.1 q.2 (by
        rw [List.getElem?_map]
        cases ha : av[q.1]? with
        | none => rw [ha] at h1; cases h1
        | some u =>
          rw [ha] at h1
          have : u = v := Option.some.inj (Option.some.inj h1)
          subst this
          rw [h2]
          rfl)
      rw [Nat.zero_add] at h3
      exact h3
    · rw [List.getElem?_append_right (by rw [List.length_map]; omega)] at h1
      have := List.eq_of_mem_replicate (List.mem_of_getElem? h1)
      cases this
  have hX : pm_X md k (va_A (pm_W k ad lay σ) s.heap.size) p s m (av.map (pm_cv ad k.2.2.2)).toArray meth c := ⟨B.exec, B.bytes, B.returns, hml, findClass_of_methodNamed B.named, hts, B.notSynchronized, (name_of_methodNamed B.named B.method).1, fun q h => Or.inr h, hSf, hK⟩
  have hw := h.2 p l e s m (av.map (pm_cv ad k.2.2.2)).toArray below meth c k (va_A (pm_W k ad lay σ) s.heap.size) ad ad s.heap [] ls hX (fun _ _ => rfl) (Nat.le_refl _) (Nat.le_refl _) hP hD0.self va_S.rf hl2
  rw [Nat.sub_self, Nat.sub_self] at hw
  exact hw
theorem pm_Sf.vm {k : pm_K} {A : Nat → Prop} {U U' : State} {H : Heap} (h : pm_Sf k A U H) (e : U.vm = U'.vm) : pm_Sf k A U' H := by
  have hal : U.vm.Alike U'.vm := by rw [e]; exact Vm.Alike.refl _
  exact ⟨fun j q hq => ⟨(h.1 j q hq).1.moved hal, (h.1 j q hq).2.moved hal⟩, fun w hw => va_Nw.same (by have := (List.mem_filter.mp hw).2; revert this; cases w <;> first | (intro z; rfl) | (intro z; simp [pm_isN] at z)) e (h.2.1 w hw), pm_AO hal h.2.2⟩
theorem pm_blind {k : pm_K} {ad : Nat → Nat} {lay : List pm_S} {σ : pm_M} {sz : Nat} {av : List pm_V} : FrameBlind (pm_Pc k ad lay σ sz av) := by
  intro a U g mk q
  obtain ⟨q0, q1, qP, qK, qD, qS⟩ := q
  exact ⟨q0, q1, qP, va_K.moved (u := U) (U := U.calling g mk a) (Vm.Alike.refl U.vm) qK, qD, pm_Sf.vm (U' := U.calling g mk a) qS rfl⟩
/-! a call: the contract's end, and what stands behind it -/
theorem pm_call {p : Program} {l : Launch} {e : Env} {R : Room} {s : State} {m : MethodId} {args : Array Value} {below : List Frame} {meth : Method} {c : Code} {H : Heap} {locs : List Loc} {cells slots : Nat} {Q : State → Prop} {pc : Nat} {ls : Array Slot} {rest st0 : List Value} {a : Array Value} {A A1 free : Nat → Prop} {mc ms n0 : Nat} {k : pm_K} {ad : Nat → Nat} {r2 : Option pm_V} {lay2 : List pm_S} {σ2 : pm_M}
    (hr : va_Run p l e R s m args below meth c H locs cells slots mc ms (F0 m pc ls st0) rest (pm_Qc k ad n0 r2 lay2 σ2 A1 a) free) (hS : va_S A s.heap H locs) (hA : ∀ q, q < H.size → A1 q → A q) (hf : ∀ q, free q → A q)
    (kk : ∀ (ad' : Nat → Nat) (H1 : Heap) (locs1 : List Loc), (∀ c, (c < n0 ∨ lay2.length ≤ c) → ad' c = ad c) → va_P k.1 vwCl (pm_W k ad' lay2 σ2) H1 → va_D A1 (pm_W k ad' lay2 σ2) → va_S A s.heap H1 locs1 → W p l e R s m args below meth c H1 locs1 (cells + mc) (slots + ms) Q (F0 m (pc + 3) ls ((r2.map (pm_cv ad' k.2.2.2)).toList ++ rest))) : W p l e R s m args below meth c H locs cells slots Q (F0 m pc ls st0) := by
  intro T hT X
  obtain ⟨v, st₀, t, T', L, h0, X', hL, e1, e2, ⟨⟨ad', had, hv, hP1, hK1, hD1⟩, hz, hk⟩, st⟩ := hr T hT X
  cases hv
  rw [h0] at hz hk
  obtain ⟨t2, a1, b1⟩ := kk ad' T'.heap (locs ++ L) had (by rw [e1]; exact hP1) hD1
    ⟨Nat.le_trans hS.1 (by rw [e1]; exact hz), fun q h1 h2 => by rw [e1, hk q (Nat.lt_of_lt_of_le h1 hS.1) (fun z => h2 (hA q (Nat.lt_of_lt_of_le h1 hS.1) z))]; exact hS.2.1 q h1 h2, fun q hq => by
      rcases List.mem_append.mp hq with h | h
      · exact hS.2.2 q h
      · exact hf _ (hL q h)⟩ T' rfl X'
  exact ⟨t2, st t2 a1, b1⟩
/-- a method by its entry of the pool -/
def pm_MB (md2 : pm_D) (n : Nat) : Prop := Cond.initialized md2.1.cls ∈ pm_G ∧ Cond.code md2.1 md2.2.1 md2.2.2.1 md2.2.2.2 ∈ pm_G ∧ (md2.1.cls ≠ "java/lang/invoke/MethodHandle" ∧ md2.1.cls ≠ "java/lang/invoke/VarHandle" ∧ (parseMethodDescriptor md2.1.desc).map (fun d => d.parameters.length) = some n)
def pm_MV (own : String) (idx : Nat) (md2 : pm_D) (n : Nat) : Prop := pm_MB md2 n ∧ Cond.methodLink own idx md2.1 ∈ pm_G ∧ Cond.instanceMethod md2.1 ∈ pm_G ∧ Cond.selects md2.1.cls md2.1 md2.1 ∈ pm_G
def pm_MS (own : String) (idx : Nat) (md2 : pm_D) (n : Nat) : Prop := pm_MB md2 n ∧ Cond.methodLink own idx md2.1 ∈ pm_G ∧ Cond.static md2.1 ∈ pm_G
def pm_MSN (own : String) (idx : Nat) (md2 : pm_D) (n : Nat) : Prop := pm_MB md2 n ∧ (∃ host, Cond.methodLinkNest own idx md2.1 host ∈ pm_nw) ∧ Cond.static md2.1 ∈ pm_G
def pm_MI (own : String) (idx : Nat) (md2 : pm_D) (n : Nat) : Prop := pm_MB md2 n ∧ Cond.methodLink own idx md2.1 ∈ pm_G ∧ Cond.instanceMethod md2.1 ∈ pm_G ∧ md2.1.name = "<init>" ∧ md2.2.2.2 = none
def pm_MIN (own : String) (idx : Nat) (md2 : pm_D) (n : Nat) : Prop := pm_MB md2 n ∧ (∃ host, Cond.methodLinkNest own idx md2.1 host ∈ pm_nw) ∧ Cond.instanceMethod md2.1 ∈ pm_G ∧ md2.1.name = "<init>" ∧ md2.2.2.2 = none
theorem pm_cats (ad sd : Nat → Nat) (S : List pm_V) : ((S.map (pm_cv ad sd)).map fun v => v.category).sum = (S.map pm_ct).sum := by
  rw [List.map_map]
  congr 1
  apply List.map_congr_left
  intro v _
  exact pm_ct_eq ad sd v
/-- references below n -/
def pm_bel (n : Nat) (v : pm_V) : Bool := match v with
  | .inr (.inr (.inl (some c))) => decide (c < n)
  | _ => true
theorem pm_bel_eq {n : Nat} {ad ad' sd : Nat → Nat} (h : ∀ c, c < n → ad' c = ad c) {v : pm_V} (hv : pm_bel n v = true) : pm_cv ad' sd v = pm_cv ad sd v := by
  rcases v with x | x | (_ | c) | j
  · rfl
  · rfl
  · rfl
  · show Value.ref (ad' c) = Value.ref (ad c)
    rw [h c (by simpa [pm_bel] using hv)]
  · rfl
/-- locals and stack look at old cells alone -/
def pm_wf (n : Nat) (L : List (Option pm_V)) (S : List pm_V) : Bool := S.all (pm_bel n) && L.all (fun o => match o with | some v => pm_bel n v | none => true)
theorem pm_wf_S {n : Nat} {L : List (Option pm_V)} {S : List pm_V} (hw : pm_wf n L S = true) {ad ad' sd : Nat → Nat} (h : ∀ c, c < n → ad' c = ad c) : S.map (pm_cv ad' sd) = S.map (pm_cv ad sd) := by
  apply List.map_congr_left
  intro v hv
  have h1 := (Bool.and_eq_true_iff.mp hw).1
  exact pm_bel_eq h (List.all_eq_true.mp h1 v hv)
theorem pm_wf_L {n : Nat} {L : List (Option pm_V)} {S : List pm_V} (hw : pm_wf n L S = true) {ad ad' sd : Nat → Nat} (h : ∀ c, c < n → ad' c = ad c) {ls : Array Slot} {nL : Nat} (hl : lv_has ls nL (pm_lc ad sd L)) : lv_has ls nL (pm_lc ad' sd L) := by
  refine pm_lc_sub hl (fun q hq => ?_)
  obtain ⟨v, h1, h2⟩ := pm_lc_mem.mp hq
  refine pm_lc_mem.mpr ⟨v, h1, ?_⟩
  have h3 := List.all_eq_true.mp (Bool.and_eq_true_iff.mp hw).2 (some v) (List.mem_of_getElem? h1)
  rw [h2]
  exact pm_bel_eq h h3
section PCL
variable {md md2 : pm_D} {d lo d2 lo2 n : Nat} {lay0 lay lay' lay2 : List pm_S} {r r2 : Option pm_V} {σ σ' σ2 : pm_M} {pc idx : Nat} {L : List (Option pm_V)} {S S0 As av : List pm_V}
/-- behind a call -/
theorem pm_after (hC : pm_C md2 d2 lo2 av lay σ r2 lay2 σ2) (hwf : lay2.length = lay.length ∨ pm_wf lay.length L S = true) (kk : pm_J md d lo lay0 r lay' σ' (pc + 3) L (r2.toList ++ S) lay2 σ2)
    {p : Program} {l : Launch} {e : Env} {s : State} {m : MethodId} {args : Array Value} {below : List Frame} {meth : Method} {c : Code} {k : pm_K} {A : Nat → Prop} {ad0 ad : Nat → Nat} {H : Heap} {locs : List Loc} {ls : Array Slot} {st0 : List Value} {a : Array Value}
    (X : pm_X md k A p s m args meth c) (h1 : ∀ c, (c < lay0.length ∨ lay.length ≤ c) → ad c = ad0 c) (h2 : lay0.length ≤ lay.length) (h3 : pm_sl lay0 ≤ pm_sl lay) (hD : va_D A (pm_W k ad lay σ)) (hS : va_S A s.heap H locs) (hl : lv_has ls md.2.2.1 (pm_lc ad k.2.2.2 L))
    (hr : va_Run p l e (pm_rm d lo lay0 lay') s m args below meth c H locs (lay.length - lay0.length) (pm_sl lay - pm_sl lay0) (lay2.length - lay.length) (pm_sl lay2 - pm_sl lay) (F0 m pc ls st0) (S.map (pm_cv ad k.2.2.2)) (pm_Qc k ad lay.length r2 lay2 σ2 (va_A (pm_W k ad lay σ) H.size) a) (va_A (pm_W k ad lay σ) H.size)) :
    W p l e (pm_rm d lo lay0 lay') s m args below meth c H locs (lay.length - lay0.length) (pm_sl lay - pm_sl lay0) (MQ below (pm_Qc k ad0 lay0.length r lay' σ' A) args s (lay'.length - lay0.length) (pm_sl lay' - pm_sl lay0) A) (F0 m pc ls st0) := by
  have hA1 : ∀ q, va_A (pm_W k ad lay σ) H.size q → A q := by
    intro q hq
    rcases hq with ⟨i, w, hi⟩ | hq
    · exact hD.2 i _ hi
    · exact X.2.2.2.2.2.2.2.2.1 q (Nat.le_trans hS.1 hq)
  refine pm_call hr hS (fun q _ h => hA1 q h) hA1 (fun ad' H1 locs1 had hP1 hD1 hS1 => ?_)
  have hm := hC.1
  have ec : lay.length - lay0.length + (lay2.length - lay.length) = lay2.length - lay0.length := by omega
  have es : pm_sl lay - pm_sl lay0 + (pm_sl lay2 - pm_sl lay) = pm_sl lay2 - pm_sl lay0 := by omega
  refine W.cs ec es ?_
  have hlt : ∀ c, c < lay.length → ad' c = ad c := fun c h => had c (Or.inl h)
  have hST : (r2.map (pm_cv ad' k.2.2.2)).toList ++ S.map (pm_cv ad k.2.2.2) = (r2.toList ++ S).map (pm_cv ad' k.2.2.2) ∧ lv_has ls md.2.2.1 (pm_lc ad' k.2.2.2 L) := by
    rcases hwf with hq | hq
    · have ea : ad' = ad := funext fun c => had c (by rw [hq]; exact Nat.lt_or_ge c lay.length)
      rw [ea]
      refine ⟨?_, hl⟩
      rw [List.map_append]
      cases r2 <;> rfl
    · refine ⟨?_, pm_wf_L hq hlt hl⟩
      rw [List.map_append, pm_wf_S hq hlt]
      cases r2 <;> rfl
  rw [hST.1]
  exact kk.2 p l e s m args below meth c k A ad0 ad' H1 locs1 ls X (fun c hc => by
    rcases hc with hc | hc
    · rw [hlt c (Nat.lt_of_lt_of_le hc h2)]
      exact h1 c (Or.inl hc)
    · rw [had c (Or.inr hc)]
      exact h1 c (Or.inr (Nat.le_trans hm.1 hc))) (Nat.le_trans h2 hm.1) (Nat.le_trans h3 hm.2) hP1 (hD1.weaken (fun _ _ _ h => hA1 _ h)) hS1 hST.2
theorem pm_pre {p : Program} {s : State} {m : MethodId} {args : Array Value} {meth : Method} {c : Code} {k : pm_K} {A : Nat → Prop} {ad : Nat → Nat} {H : Heap} {locs : List Loc}
    (X : pm_X md k A p s m args meth c) (hP : va_P k.1 vwCl (pm_W k ad lay σ) H) (hD : va_D A (pm_W k ad lay σ)) (hS : va_S A s.heap H locs) : ∀ U : State, U.heap = H → s.WarmedH U.vm → pm_Pc k ad lay σ H.size av (av.map (pm_cv ad k.2.2.2)).toArray U := by
  intro U hU hW
  refine ⟨rfl, by rw [hU], by rw [hU]; exact hP, va_K.moved hW.alike X.2.2.2.2.2.2.2.2.2.2, hD.weaken (fun _ _ _ _ => trivial), ?_⟩
  refine pm_Sf.to X.2.2.2.2.2.2.2.2.2.1 hS (fun q hlt hq => ?_) hW hU
  rcases hq with ⟨i, w, hi⟩ | hq
  · exact hD.2 i _ hi
  · omega
theorem pm_room (hC : pm_C md2 d2 lo2 av lay σ r2 lay2 σ2) (kk : lay2.length ≤ lay'.length ∧ pm_sl lay2 ≤ pm_sl lay') (h2 : lay0.length ≤ lay.length) (h3 : pm_sl lay0 ≤ pm_sl lay) : lay.length - lay0.length + (lay2.length - lay.length) ≤ (pm_rm d lo lay0 lay').cells ∧ pm_sl lay - pm_sl lay0 + (pm_sl lay2 - pm_sl lay) ≤ (pm_rm d lo lay0 lay').slots := by
  have hm := hC.1
  show _ ≤ lay'.length - lay0.length ∧ _ ≤ pm_sl lay' - pm_sl lay0
  omega
theorem pr_callV {t ci : Nat} {q : vw_C} {fs : List pm_F} (hd : decode md.2.1 pc = .ok (.invokevirtual idx, 3)) (hw : pm_MV md.1.cls idx md2 n) (hy : lay[t]? = some (ps_o ci fs)) (hc : vwCl[ci]? = some q) (hq : q.1 = md2.1.cls) (hn : As.length = n) (hst : S0 = As.reverse ++ pv_r t :: S) (h8 : (S.map pm_ct).sum ≤ 8) (hf : d2 + 1 ≤ d) (hlo : 8 + (md2.2.2.1 + 11) + lo2 ≤ lo) (hwf : lay2.length = lay.length ∨ pm_wf lay.length L S = true)
    (hC : pm_C md2 d2 lo2 (pv_r t :: As) lay σ r2 lay2 σ2) (kk : pm_J md d lo lay0 r lay' σ' (pc + 3) L (r2.toList ++ S) lay2 σ2) : pm_J md d lo lay0 r lay' σ' pc L S0 lay σ := by
  have hm := hC.1
  refine ⟨⟨Nat.le_trans hm.1 kk.1.1, Nat.le_trans hm.2 kk.1.2⟩, fun p l e s m args below meth c k A ad0 ad H locs ls X h1 h2 h3 hP hD hS hl => ?_⟩
  refine pm_after hC hwf kk X h1 h2 h3 hD hS hl (a := (Value.ref (ad t) :: As.map (pm_cv ad k.2.2.2)).toArray) ?_
  obtain ⟨⟨w1, w2, w3⟩, w4, w5, w6⟩ := hw
  have hG : GoodIn (pm_wds md) (wsV md.1.cls idx md2.1.cls md2.1 (pm_wds md2)) := by
    intro w h
    have hg : w ∈ pm_G := by
      simp only [wsV, pm_wds, List.mem_append, List.mem_cons, List.not_mem_nil, or_false] at h
      rcases h with (rfl | rfl | rfl | rfl) | rfl | h <;> assumption
    exact ⟨pm_wds_in hg, good_of_word (List.mem_filter.mp hg).2⟩
  exact va_runV (As := As.map (pm_cv ad k.2.2.2)) (rest := S.map (pm_cv ad k.2.2.2)) (nL := md.2.2.1) ⟨X.1, X.2.1, X.2.2.2.1, X.2.2.2.2.1, X.2.2.2.2.2.1⟩ (hC.2 l k ad H.size) (cwV n X.2.2.2.2.2.1 hG rfl rfl rfl ⟨rfl, w3⟩ ⟨hf, hlo⟩)
    ⟨pm_blind, by rw [← hq]; exact va_recv X.2.2.2.2.2.2.2.2.2.2 hP hc (pm_W_at hy), pm_pre X hP hD hS⟩ rfl (by rw [List.length_map]; exact hn) hl.1 (by rw [hst]; show List.map _ _ = _; rw [List.map_append, List.map_reverse]; rfl) (lv_room (by rw [pm_cats]; exact h8)) hd (pm_room hC kk.1 h2 h3)
theorem pr_callS (hd : decode md.2.1 pc = .ok (.invokestatic idx, 3)) (hw : pm_MS md.1.cls idx md2 n) (hn : av.length = n) (hst : S0 = av.reverse ++ S) (h8 : (S.map pm_ct).sum ≤ 8) (hf : d2 + 1 ≤ d) (hlo : 8 + (md2.2.2.1 + 11) + lo2 ≤ lo) (hwf : lay2.length = lay.length ∨ pm_wf lay.length L S = true)
    (hC : pm_C md2 d2 lo2 av lay σ r2 lay2 σ2) (kk : pm_J md d lo lay0 r lay' σ' (pc + 3) L (r2.toList ++ S) lay2 σ2) : pm_J md d lo lay0 r lay' σ' pc L S0 lay σ := by
  have hm := hC.1
  refine ⟨⟨Nat.le_trans hm.1 kk.1.1, Nat.le_trans hm.2 kk.1.2⟩, fun p l e s m args below meth c k A ad0 ad H locs ls X h1 h2 h3 hP hD hS hl => ?_⟩
  refine pm_after hC hwf kk X h1 h2 h3 hD hS hl (a := (av.map (pm_cv ad k.2.2.2)).toArray) ?_
  obtain ⟨⟨w1, w2, w3⟩, w4, w5⟩ := hw
  have hG : GoodIn (pm_wds md) (va_wsS md.1.cls idx md2.1 (pm_wds md2)) := by
    intro w h
    have hg : w ∈ pm_G := by
      simp only [va_wsS, pm_wds, List.mem_append, List.mem_cons, List.not_mem_nil, or_false] at h
      rcases h with (rfl | rfl | rfl) | rfl | h <;> assumption
    exact ⟨pm_wds_in hg, good_of_word (List.mem_filter.mp hg).2⟩
  exact va_runS (As := av.map (pm_cv ad k.2.2.2)) (rest := S.map (pm_cv ad k.2.2.2)) (nL := md.2.2.1) ⟨X.1, X.2.1, X.2.2.2.1, X.2.2.2.2.1, X.2.2.2.2.2.1⟩ (hC.2 l k ad H.size) (va_cwS n X.2.2.2.2.2.1 hG rfl rfl rfl w3 ⟨hf, hlo⟩)
    ⟨pm_blind, pm_pre X hP hD hS⟩ rfl (by rw [List.length_map]; exact hn) hl.1 (by rw [hst]; show List.map _ _ = _; rw [List.map_append, List.map_reverse]) (lv_room (by rw [pm_cats]; exact h8)) hd (pm_room hC kk.1 h2 h3)
theorem pr_callSN (hd : decode md.2.1 pc = .ok (.invokestatic idx, 3)) (hw : pm_MSN md.1.cls idx md2 n) (hn : av.length = n) (hst : S0 = av.reverse ++ S) (h8 : (S.map pm_ct).sum ≤ 8) (hf : d2 + 1 ≤ d) (hlo : 8 + (md2.2.2.1 + 11) + lo2 ≤ lo) (hwf : lay2.length = lay.length ∨ pm_wf lay.length L S = true)
    (hC : pm_C md2 d2 lo2 av lay σ r2 lay2 σ2) (kk : pm_J md d lo lay0 r lay' σ' (pc + 3) L (r2.toList ++ S) lay2 σ2) : pm_J md d lo lay0 r lay' σ' pc L S0 lay σ := by
  have hm := hC.1
  refine ⟨⟨Nat.le_trans hm.1 kk.1.1, Nat.le_trans hm.2 kk.1.2⟩, fun p l e s m args below meth c k A ad0 ad H locs ls X h1 h2 h3 hP hD hS hl => ?_⟩
  refine pm_after hC hwf kk X h1 h2 h3 hD hS hl (a := (av.map (pm_cv ad k.2.2.2)).toArray) ?_
  obtain ⟨⟨w1, w2, w3⟩, ⟨host, w4⟩, w5⟩ := hw
  exact va_runSN (As := av.map (pm_cv ad k.2.2.2)) (rest := S.map (pm_cv ad k.2.2.2)) (nL := md.2.2.1) ⟨X.1, X.2.1, X.2.2.2.1, X.2.2.2.2.1, X.2.2.2.2.2.1⟩ (hC.2 l k ad H.size) ⟨va_cnB n X.2.2.2.2.2.1 (pm_good w2) rfl rfl rfl (X.2.2.2.2.2.2.2.2.2.1.2.1 _ w4) (X.2.2.2.2.2.1 _ (pm_wds_in w1)) w3 ⟨hf, hlo⟩, X.2.2.2.2.2.1 _ (pm_wds_in w5), trivial⟩
    ⟨pm_blind, pm_pre X hP hD hS⟩ rfl (by rw [List.length_map]; exact hn) hl.1 (by rw [hst]; show List.map _ _ = _; rw [List.map_append, List.map_reverse]) (lv_room (by rw [pm_cats]; exact h8)) hd (pm_room hC kk.1 h2 h3)
end PCL
