/-! ===== guards, binds, loops ===== -/
def pm_g {α : Type} (c : Prop) [Decidable c] (x : Option α) : Option α := if c then x else none
theorem pm_gs {α : Type} {c : Prop} [Decidable c] {x : Option α} {y : α} (h : pm_g c x = some y) : c ∧ x = some y := by
  unfold pm_g at h
  split at h
  · exact ⟨by assumption, h⟩
  · cases h
theorem pm_bs {α β : Type} {x : Option α} {f : α → Option β} {y : β} (h : x.bind f = some y) : ∃ q, x = some q ∧ f q = some y := by
  cases x with
  | none => cases h
  | some q => exact ⟨q, rfl, h⟩
theorem pm_pos {α : Type} {c : Prop} [Decidable c] {x y : Option α} {z : α} (hc : c) (h : (if c then x else y) = some z) : x = some z := by
  rw [if_pos hc] at h
  exact h
theorem pm_ng {α : Type} {c : Prop} [Decidable c] {x y : Option α} {z : α} (hc : ¬ c) (h : (if c then x else y) = some z) : y = some z := by
  rw [if_neg hc] at h
  exact h
def pm_fuel : Nat := 100000
def pm_it {α β : Type} (f : α → Option (β ⊕ α)) : Nat → α → Option β
  | 0, _ => none
  | n + 1, a => (f a).bind (fun x => match x with
    | .inl b => some b
    | .inr a' => pm_it f n a')
theorem pm_it_J {α β : Type} {f : α → Option (β ⊕ α)} {P : α → Prop} {Rx : β → Prop} (hstep : ∀ a e, f a = some e → (∀ a', e = .inr a' → P a') → (∀ b', e = .inl b' → Rx b') → P a) : ∀ (n : Nat) (a : α) (b : β), pm_it f n a = some b → Rx b → P a := by
  intro n
  induction n with
  | zero => intro a b h; cases h
  | succ n ih =>
    intro a b h hb
    unfold pm_it at h
    obtain ⟨e, he, h⟩ := pm_bs h
    refine hstep a e he (fun a' ha => ?_) (fun b' hb' => ?_)
    · subst ha
      exact ih a' b h hb
    · subst hb'
      have : b' = b := Option.some.inj h
      rw [this]
      exact hb
/-- a loop by invariant and measure: it ends, and behind it Q -/
theorem pm_it_ok {α β : Type} {f : α → Option (β ⊕ α)} (I : α → Prop) (Q : β → Prop) (μ : α → Nat) (hs : ∀ a, I a → (∃ b, f a = some (.inl b) ∧ Q b) ∨ ∃ a', f a = some (.inr a') ∧ I a' ∧ μ a' < μ a) : ∀ (n : Nat) (a : α), I a → μ a < n → ∃ b, pm_it f n a = some b ∧ Q b := by
  intro n
  induction n with
  | zero => intro a _ h; omega
  | succ n ih =>
    intro a ha hn
    rcases hs a ha with ⟨b, h1, h2⟩ | ⟨a', h1, h2, h3⟩
    · exact ⟨b, by unfold pm_it; rw [h1]; rfl, h2⟩
    · obtain ⟨b, g1, g2⟩ := ih a' h2 (by omega)
      exact ⟨b, by unfold pm_it; rw [h1]; exact g1, g2⟩
/-- System.arraycopy between two int arrays -/
def pm_cp (σ : pm_M) (a sp b dp n : Nat) : pm_M := fun c i => if c = b ∧ dp ≤ i ∧ i < dp + n then σ a (sp + (i - dp)) else σ c i
theorem pm_W_cp {k : pm_K} {ad : Nat → Nat} {lay : List pm_S} {σ : pm_M} {a sp b dp n m : Nat} (h : lay[b]? = some (ps_a m)) :
    pm_W k ad lay (pm_cp σ a sp b dp n) = (pm_W k ad lay σ).set b (ad b, .inl (k.2.1, m, .inl (va_cpy (fun i => Int32.ofInt (σ a i)) (fun i => Int32.ofInt (σ b i)) sp dp n))) := by
  apply List.ext_getElem?
  intro i
  unfold pm_W
  rw [List.getElem?_mapIdx]
  by_cases hi : i = b
  · subst hi
    have hlt : i < lay.length := (List.getElem?_eq_some_iff.mp h).1
    rw [List.getElem?_set_self (by rw [List.length_mapIdx]; exact hlt), h]
    have e8 : (fun j => Int32.ofInt (pm_cp σ a sp i dp n i j)) = va_cpy (fun j => Int32.ofInt (σ a j)) (fun j => Int32.ofInt (σ i j)) sp dp n := by
      funext j
      unfold pm_cp va_cpy
      simp only [true_and]
      split <;> rfl
    rw [← e8]
    rfl
  · rw [List.getElem?_set_ne (Ne.symm hi), List.getElem?_mapIdx]
    have e9 : pm_cp σ a sp b dp n i = σ i := by
      funext j'
      unfold pm_cp
      rw [if_neg (fun q => hi q.1)]
    rw [e9]
def pm_AC (own : String) (idx : Nat) : Prop := Cond.methodLink own idx arraycopyName ∈ pm_G ∧ Cond.native arraycopyName ∈ pm_G ∧ Cond.static arraycopyName ∈ pm_G ∧ Cond.initialized "java/lang/System" ∈ pm_G
theorem pr_acopy {md : pm_D} {d lo : Nat} {lay0 lay lay' : List pm_S} {r : Option pm_V} {σ σ' : pm_M} {pc idx : Nat} {L : List (Option pm_V)} {S : List pm_V} {a b n0 n1 : Nat} {sp dp n sp' dp' n' : Int} (hd : decode md.2.1 pc = .ok (.invokestatic idx, 3)) (hw : pm_AC md.1.cls idx) (ha : lay[a]? = some (ps_a n0)) (hb : lay[b]? = some (ps_a n1)) (hsp : wr sp = sp') (hdp : wr dp = dp') (hn : wr n = n') (hg : 0 ≤ sp' ∧ 0 ≤ dp' ∧ 0 ≤ n' ∧ sp' + n' ≤ n0 ∧ dp' + n' ≤ n1) (hf : 1 ≤ d) (hlo : (S.map pm_ct).sum + (nativeFrameWords "java/lang/System" "arraycopy" 5 + 11) ≤ lo)
    (kk : pm_J md d lo lay0 r lay' σ' (pc + 3) L S lay (pm_cp σ a sp'.toNat b dp'.toNat n'.toNat)) : pm_J md d lo lay0 r lay' σ' pc L (pv_i n :: pv_i dp :: pv_r b :: pv_i sp :: pv_r a :: S) lay σ := by
  subst hsp
  subst hdp
  subst hn
  obtain ⟨g1, g2, g3, g4, g5⟩ := hg
  refine ⟨kk.1, fun p l e s m args below meth c k A ad0 ad H locs ls X h1 h2 h3 hP hD hS hl => ?_⟩
  obtain ⟨w1, w2, w3, w4⟩ := hw
  have nn : ∀ z : Int, 0 ≤ wr z → ¬ Int32.ofInt z < 0 := fun z hz q => by have := (pm_lt0 z).mp q; omega
  refine va_copyi (D := k.1) X.1 X.2.1 (X.2.2.2.1.trans hl.1.symm) X.2.2.2.2.1 (X.2.2.2.2.2.1 _ (pm_wds_in w1)) (X.2.2.2.2.2.1 _ (pm_wds_in w2)) (X.2.2.2.2.2.1 _ (pm_wds_in w3)) (X.2.2.2.2.2.1 _ (pm_wds_in w4)) X.2.2.2.2.2.2.2.2.2.2 hP hD hS a b 0 0 (pm_W_at ha) (pm_W_at hb) rfl rfl (ty := .int) rfl (nn sp g1) (nn dp g2) (nn n g3) (by rw [pm_cl, pm_cl]; omega) (by rw [pm_cl, pm_cl]; omega) (fun _ _ => rfl) hf (by rw [pm_cats]; exact hlo) hd (fun H1 locs1 hP1 hD1 hS1 => ?_)
  rw [pm_cl, pm_cl, pm_cl] at hP1 hD1
  rw [← pm_W_cp hb] at hP1 hD1
  exact kk.2 p l e s m args below meth c k A ad0 ad H1 locs1 ls X h1 h2 h3 hP1 hD1 hS1 hl
