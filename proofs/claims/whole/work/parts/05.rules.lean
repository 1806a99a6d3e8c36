/-! ===== words, statics, the judgement ===== -/
abbrev pm_D : Type := MethodName × ByteArray × Nat × Option FieldType
def pm_G : List Cond := lw_tbl.filter goodWord
def pm_wds (md : pm_D) : List Cond := Cond.code md.1 md.2.1 md.2.2.1 md.2.2.2 :: pm_G
theorem pm_wds_in {md : pm_D} {w : Cond} (h : w ∈ pm_G) : w ∈ pm_wds md := List.mem_cons_of_mem _ h
theorem pm_good {md md' : pm_D} (hc : Cond.code md'.1 md'.2.1 md'.2.2.1 md'.2.2.2 ∈ pm_G) : GoodIn (pm_wds md) (pm_wds md') := by
  intro w hw
  have hg : w ∈ pm_G := by
    rcases List.mem_cons.mp hw with rfl | h
    · exact hc
    · exact h
  exact ⟨pm_wds_in hg, good_of_word (List.mem_filter.mp hg).2⟩
theorem pm_inG {w : Cond} (i : Nat) (h : lw_tbl[i]? = some w) (hg : goodWord w = true) : w ∈ pm_G := List.mem_filter.mpr ⟨List.mem_of_getElem? h, hg⟩
def pm_st : List (String × String × List Int) := [("PaperMill", "ROW_WHEN_NONE", [20, 4, 0]), ("PaperMill", "ROW_LEAST", [-1, -1, 0]), ("PaperMill", "ROW_GREATEST", [60, 9, 1])]
def pm_isN : Cond → Bool
  | .fieldLinkNest .. => true
  | .methodLinkNest .. => true
  | _ => false
def pm_nw : List Cond := lw_tbl.filter pm_isN
theorem pm_inN {w : Cond} (i : Nat) (h : lw_tbl[i]? = some w) (hg : pm_isN w = true) : w ∈ pm_nw := List.mem_filter.mpr ⟨List.mem_of_getElem? h, hg⟩
def pm_Sf (k : pm_K) (A : Nat → Prop) (U : State) (H : Heap) : Prop :=
  (∀ (j : Nat) (q : String × String × List Int), pm_st[j]? = some q → va_Z q.1 q.2.1 "[I" (.ref (k.2.2.2 j)) A U H ∧ va_T .int (k.2.2.2 j) q.2.2.length (fun i => .int (Int32.ofInt (q.2.2.getD i 0))) A U H) ∧ (∀ w ∈ pm_nw, va_Nw w U) ∧ (Cond.arrayOver (.array .int)).before #[] U = true
theorem pm_find {vm vm' : Vm} (h : vm.Alike vm') (f : Class → Bool) (hf : ∀ k : Class, f k.bare = f k) : vm'.classes.findIdx? f = vm.classes.findIdx? f := by
  have e : ∀ v : Vm, v.bare.classes.findIdx? f = v.classes.findIdx? f := by
    intro v
    simp only [Vm.bare, Array.findIdx?_map]
    have : f ∘ Class.bare = f := funext hf
    rw [this]
  rw [← e vm', ← e vm, h.bare_eq]
theorem pm_AO {u U : State} (hvm : u.vm.Alike U.vm) {ty : FieldType} (h : (Cond.arrayOver ty).before #[] u = true) : (Cond.arrayOver ty).before #[] U = true := by
  have e : (Cond.arrayOver ty).before #[] U = (Cond.arrayOver ty).before #[] u := by
    simp only [Cond.before, Cond.holds, Cond.value, hvm.findClass]
    congr 1
    congr 1
    funext comp
    rw [pm_find hvm _ (fun k => rfl)]
    congr 1
    funext c
    exact hvm.class_map _ (fun k r _ _ => rfl) c
  rw [e]
  exact h
theorem pm_Nw {w : Cond} (hw : pm_isN w = true) {s U : State} (hW : s.WarmedH U.vm) (h : va_Nw w s) : va_Nw w U := by
  cases w <;> first | (simp [pm_isN] at hw; done) | exact va_Nw.warmF hW h | exact va_Nw.warmM hW h
theorem pm_Sf.to {k : pm_K} {A B : Nat → Prop} {s U : State} {H : Heap} {locs : List Loc} (h : pm_Sf k A s s.heap) (hS : va_S A s.heap H locs) (hB : ∀ q, q < H.size → B q → A q) (hW : s.WarmedH U.vm) (hU : U.heap = H) : pm_Sf k B U U.heap := by
  have hvm := hW.alike
  have hk : ∀ a : Nat, a < s.heap.size → ¬ A a → H[a]? = s.heap[a]? := hS.2.1
  refine ⟨fun j q hq => ?_, fun w hw => pm_Nw (List.mem_filter.mp hw).2 hW (h.2.1 w hw), pm_AO hvm h.2.2⟩
  obtain ⟨h1, h2⟩ := h.1 j q hq
  rw [hU]
  constructor
  · obtain ⟨cf, kf, fi, f, a, cell, g1, g2, g3, g4, g5, g6, g7, g8⟩ := (h1.kept hk).moved hvm
    exact ⟨cf, kf, fi, f, a, cell, g1, g2, g3, g4, g5, g6, g7, fun z => g8 (hB a (Array.getElem?_eq_some_iff.mp g5).1 z)⟩
  · obtain ⟨cell, g1, g2, g3, g4, g5, g6, g7⟩ := (h2.kept hk).moved hvm
    exact ⟨cell, g1, g2, g3, g4, g5, g6, fun z => g7 (hB _ (Array.getElem?_eq_some_iff.mp g1).1 z)⟩
def pm_tys (k : pm_K) : List (ClassId × FieldType) := [(k.2.1, .int), (k.2.2.1, .array .int)]
/-- a contract's start -/
def pm_Pc (k : pm_K) (ad : Nat → Nat) (lay : List pm_S) (σ : pm_M) (sz : Nat) (av : List pm_V) : Array Value → State → Prop :=
  va_Pc (av.map (pm_cv ad k.2.2.2)) (fun U => U.heap.size = sz ∧ va_P k.1 vwCl (pm_W k ad lay σ) U.heap ∧ va_K k.1 vwCl (pm_tys k) U ∧ va_D (fun _ => True) (pm_W k ad lay σ) ∧ pm_Sf k (va_A (pm_W k ad lay σ) sz) U U.heap)
/-- and its end -/
def pm_Qc (k : pm_K) (ad : Nat → Nat) (n0 : Nat) (r : Option pm_V) (lay' : List pm_S) (σ' : pm_M) (A : Nat → Prop) : Array Value → State → Outcome → State → Prop := fun _ st oc t =>
  (∃ ad' : Nat → Nat, (∀ c, (c < n0 ∨ lay'.length ≤ c) → ad' c = ad c) ∧ oc = .returned (r.map (pm_cv ad' k.2.2.2)) ∧ va_P k.1 vwCl (pm_W k ad' lay' σ') t.heap ∧ va_K k.1 vwCl (pm_tys k) t ∧ va_D A (pm_W k ad' lay' σ')) ∧ va_F A st t
def pm_rm (d lo : Nat) (lay lay' : List pm_S) : Room := { frames := d, cells := lay'.length - lay.length, slots := pm_sl lay' - pm_sl lay, locals := lo }
/-- the contract: with these arguments in this world the method answers r, and the world is that -/
def pm_C (md : pm_D) (d lo : Nat) (av : List pm_V) (lay : List pm_S) (σ : pm_M) (r : Option pm_V) (lay' : List pm_S) (σ' : pm_M) : Prop :=
  (lay.length ≤ lay'.length ∧ pm_sl lay ≤ pm_sl lay') ∧ ∀ (l : Launch) (k : pm_K) (ad : Nat → Nat) (sz : Nat),
    Met l md.1 (pm_wds md) (pm_rm d lo lay lay') (pm_Pc k ad lay σ sz av) (pm_Qc k ad lay.length r lay' σ' (va_A (pm_W k ad lay σ) sz)) (lay'.length - lay.length) (pm_sl lay' - pm_sl lay) (va_A (pm_W k ad lay σ) sz)
def pm_X (md : pm_D) (k : pm_K) (A : Nat → Prop) (p : Program) (s : State) (m : MethodId) (args : Array Value) (meth : Method) (c : Code) : Prop :=
  p.tables.exec = Jvm.exec ∧ c.code = md.2.1 ∧ meth.sig.returnType = md.2.2.2 ∧ c.maxLocals = md.2.2.1 ∧ s.vm.findClass md.1.cls = some m.cls ∧ (∀ w ∈ pm_wds md, w.before args s = true) ∧ meth.locks = false ∧ meth.name = md.1.name ∧ (∀ q, s.heap.size ≤ q → A q) ∧ pm_Sf k A s s.heap ∧ va_K k.1 vwCl (pm_tys k) s
def pm_lc (ad sd : Nat → Nat) (L : List (Option pm_V)) : List (Nat × Value) := (L.mapIdx (fun i o => o.map (fun v => (i, pm_cv ad sd v)))).filterMap id
/-- at pc with these locals, this stack and this world the method comes to its end: answer r, world lay' σ' -/
def pm_J (md : pm_D) (d lo : Nat) (lay0 : List pm_S) (r : Option pm_V) (lay' : List pm_S) (σ' : pm_M) (pc : Nat) (L : List (Option pm_V)) (S : List pm_V) (lay : List pm_S) (σ : pm_M) : Prop :=
  (lay.length ≤ lay'.length ∧ pm_sl lay ≤ pm_sl lay') ∧ ∀ (p : Program) (l : Launch) (e : Env) (s : State) (m : MethodId) (args : Array Value) (below : List Frame) (meth : Method) (c : Code) (k : pm_K) (A : Nat → Prop) (ad0 ad : Nat → Nat) (H : Heap) (locs : List Loc) (ls : Array Slot),
    pm_X md k A p s m args meth c → (∀ c, (c < lay0.length ∨ lay.length ≤ c) → ad c = ad0 c) → lay0.length ≤ lay.length → pm_sl lay0 ≤ pm_sl lay →
    va_P k.1 vwCl (pm_W k ad lay σ) H → va_D A (pm_W k ad lay σ) → va_S A s.heap H locs → lv_has ls md.2.2.1 (pm_lc ad k.2.2.2 L) →
    W p l e (pm_rm d lo lay0 lay') s m args below meth c H locs (lay.length - lay0.length) (pm_sl lay - pm_sl lay0) (MQ below (pm_Qc k ad0 lay0.length r lay' σ' A) args s (lay'.length - lay0.length) (pm_sl lay' - pm_sl lay0) A) (F0 m pc ls (S.map (pm_cv ad k.2.2.2)))
theorem pm_lc_mem {ad sd : Nat → Nat} {L : List (Option pm_V)} {q : Nat × Value} : q ∈ pm_lc ad sd L ↔ ∃ v, L[q.1]? = some (some v) ∧ q.2 = pm_cv ad sd v := by
  unfold pm_lc
  simp only [List.mem_filterMap, id, exists_eq_right]
  rw [List.mem_mapIdx]
  constructor
  · rintro ⟨i, hi, h⟩
    cases ho : L[i] with
    | none => rw [ho] at h; cases h
    | some v =>
      rw [ho] at h
      cases h
      exact ⟨v, by rw [List.getElem?_eq_getElem hi, ho], rfl⟩
  · rintro ⟨v, h1, h2⟩
    obtain ⟨hi, he⟩ := List.getElem?_eq_some_iff.mp h1
    exact ⟨q.1, hi, by rw [he]; show some (q.1, pm_cv ad sd v) = some q; rw [← h2]⟩
theorem pm_lc_at {ls : Array Slot} {n : Nat} {ad sd : Nat → Nat} {L : List (Option pm_V)} (h : lv_has ls n (pm_lc ad sd L)) {i : Nat} {v : pm_V} (hi : L[i]? = some (some v)) : ls[i]? = some (.val (pm_cv ad sd v)) :=
  h.2.2 (i, pm_cv ad sd v) (pm_lc_mem.mpr ⟨v, hi, rfl⟩)
theorem pm_lc_sub {ls : Array Slot} {n : Nat} {ad sd : Nat → Nat} {L : List (Option pm_V)} {l : List (Nat × Value)} (h : lv_has ls n l) (hs : ∀ q ∈ pm_lc ad sd L, q ∈ l) : lv_has ls n (pm_lc ad sd L) := ⟨h.1, h.2.1, fun q hq => h.2.2 q (hs q hq)⟩
/-- what lies ahead of a place isn't a long -/
def pm_ok1 (L : List (Option pm_V)) (i : Nat) : Bool := match i with
  | 0 => true
  | j + 1 => match L[j]? with
    | some (some (.inr (.inl _))) => false
    | _ => true
theorem pm_ok1_spec {L : List (Option pm_V)} {j : Nat} {v : pm_V} (h : pm_ok1 L (j + 1) = true) (hv : L[j]? = some (some v)) : pm_ct v = 1 := by
  unfold pm_ok1 at h
  simp only [hv] at h
  rcases v with x | x | (_ | r) | y
  · rfl
  · simp at h
  · rfl
  · rfl
  · rfl
theorem pm_lc_set {ls' : Array Slot} {n : Nat} {ad sd : Nat → Nat} {L : List (Option pm_V)} {i : Nat} {v : pm_V} (hok : pm_ok1 L i = true)
    (h : lv_has ls' n ((i, pm_cv ad sd v) :: (pm_lc ad sd L).filter (fun q => !(q.1 == i) && !(q.1 + 1 == i && q.2.category == 2)))) : lv_has ls' n (pm_lc ad sd (L.set i (some v))) := by
  refine pm_lc_sub h (fun q hq => ?_)
  obtain ⟨u, h1, h2⟩ := pm_lc_mem.mp hq
  by_cases hi : q.1 = i
  · rw [hi] at h1
    rw [List.getElem?_set] at h1
    simp only [if_true] at h1
    split at h1
    · cases h1
      exact List.mem_cons.mpr (Or.inl (Prod.ext hi h2))
    · cases h1
  · rw [List.getElem?_set_ne (Ne.symm hi)] at h1
    refine List.mem_cons.mpr (Or.inr (List.mem_filter.mpr ⟨pm_lc_mem.mpr ⟨u, h1, h2⟩, ?_⟩))
    have e1 : (q.1 == i) = false := by simpa using hi
    rw [e1]
    by_cases hj : q.1 + 1 = i
    · subst hj
      have := pm_ok1_spec hok h1
      rw [h2, pm_ct_eq, this]
      simp
    · have e2 : (q.1 + 1 == i) = false := by simpa using hj
      rw [e2]
      rfl
theorem pm_lc_set2 {ls' : Array Slot} {n : Nat} {ad sd : Nat → Nat} {L : List (Option pm_V)} {i : Nat} {v : pm_V} (hok : pm_ok1 L i = true)
    (h : lv_has ls' n ((i, pm_cv ad sd v) :: (pm_lc ad sd L).filter (fun q => !(q.1 == i) && (!(q.1 == i + 1) && !(q.1 + 1 == i && q.2.category == 2))))) : lv_has ls' n (pm_lc ad sd ((L.set i (some v)).set (i + 1) none)) := by
  refine pm_lc_sub h (fun q hq => ?_)
  obtain ⟨u, h1, h2⟩ := pm_lc_mem.mp hq
  have hne : q.1 ≠ i + 1 := by
    intro e
    rw [e, List.getElem?_set] at h1
    simp only [if_true] at h1
    split at h1 <;> cases h1
  rw [List.getElem?_set_ne (Ne.symm hne)] at h1
  by_cases hi : q.1 = i
  · rw [hi] at h1
    rw [List.getElem?_set] at h1
    simp only [if_true] at h1
    split at h1
    · cases h1
      exact List.mem_cons.mpr (Or.inl (Prod.ext hi h2))
    · cases h1
  · rw [List.getElem?_set_ne (Ne.symm hi)] at h1
    refine List.mem_cons.mpr (Or.inr (List.mem_filter.mpr ⟨pm_lc_mem.mpr ⟨u, h1, h2⟩, ?_⟩))
    have e1 : (q.1 == i) = false := by simpa using hi
    have e3 : (q.1 == i + 1) = false := by simpa using hne
    rw [e1, e3]
    by_cases hj : q.1 + 1 = i
    · subst hj
      have := pm_ok1_spec hok h1
      rw [h2, pm_ct_eq, this]
      simp
    · have e2 : (q.1 + 1 == i) = false := by simpa using hj
      rw [e2]
      rfl
