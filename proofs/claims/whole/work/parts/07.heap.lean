/-! ===== rows over the heap ===== -/
theorem pm_W_lay {k : pm_K} {ad : Nat → Nat} {lay : List pm_S} {σ : pm_M} {c : Nat} {S' : pm_S} : pm_W k ad (lay.set c S') σ = (pm_W k ad lay σ).set c (ad c, pm_cell k ad (σ c) S') := by
  apply List.ext_getElem?
  intro i
  unfold pm_W
  rw [List.getElem?_mapIdx]
  by_cases hi : i = c
  · subst hi
    by_cases hl : i < lay.length
    · rw [List.getElem?_set_self hl, List.getElem?_set_self (by rw [List.length_mapIdx]; exact hl)]
      rfl
    · rw [List.getElem?_eq_none (by rw [List.length_set]; omega), List.getElem?_eq_none (by rw [List.length_set, List.length_mapIdx]; omega)]
      rfl
  · rw [List.getElem?_set_ne (Ne.symm hi), List.getElem?_set_ne (Ne.symm hi), List.getElem?_mapIdx]
theorem pm_flds_up {ad : Nat → Nat} {m : Nat → Int} {fs : List pm_F} {j : Nat} {x : Int} (hf : fs[j]? = some none) : (fs.mapIdx (fun i f => pm_fld ad m i f)).set j (.int (Int32.ofInt x)) = fs.mapIdx (fun i f => pm_fld ad (fun i => if i = j then x else m i) i f) := by
  apply List.ext_getElem?
  intro i
  by_cases hi : i = j
  · subst hi
    have hl : i < fs.length := (List.getElem?_eq_some_iff.mp hf).1
    rw [List.getElem?_set_self (by rw [List.length_mapIdx]; exact hl), List.getElem?_mapIdx, hf]
    simp [pm_fld]
  · rw [List.getElem?_set_ne (Ne.symm hi), List.getElem?_mapIdx, List.getElem?_mapIdx]
    cases fs[i]? with
    | none => rfl
    | some f =>
      rcases f with _ | _ | r <;> simp [pm_fld, hi]
theorem pm_flds_set {ad : Nat → Nat} {m : Nat → Int} {fs : List pm_F} {j r : Nat} : (fs.mapIdx (fun i f => pm_fld ad m i f)).set j (.ref (ad r)) = (fs.set j (some (some r))).mapIdx (fun i f => pm_fld ad m i f) := by
  apply List.ext_getElem?
  intro i
  by_cases hi : i = j
  · subst hi
    by_cases hl : i < fs.length
    · rw [List.getElem?_set_self (by rw [List.length_mapIdx]; exact hl), List.getElem?_mapIdx, List.getElem?_set_self hl]
      rfl
    · rw [List.getElem?_eq_none (by rw [List.length_set, List.length_mapIdx]; omega), List.getElem?_eq_none (by rw [List.length_mapIdx, List.length_set]; omega)]
  · rw [List.getElem?_set_ne (Ne.symm hi), List.getElem?_mapIdx, List.getElem?_mapIdx, List.getElem?_set_ne (Ne.symm hi)]
theorem pm_up_at (σ : pm_M) (c j : Nat) (v : Int) : pm_up σ c j v c = fun i => if i = j then v else σ c i := by
  funext i
  unfold pm_up
  simp
/-- what is known of a class of ours -/
def pm_Cok (q : vw_C) : Prop := (∀ w ∈ u_ws q.1 q.2.1 q.2.2, w ∈ pm_G) ∧ (∀ a, a < q.2.2 → ∀ b, b < q.2.2 → a ≠ b → (q.2.1 a).2.1 ≠ (q.2.1 b).2.1) ∧ ∃ ty : Nat → FieldType, ∀ k, k < q.2.2 → parseFieldDescriptor (q.2.1 k).2.2.1 = some (ty k)
/-- a field by its entry of the pool: the class's number, the place -/
def pm_L (own : String) (idx ci j : Nat) : Prop := ∃ q : vw_C, vwCl[ci]? = some q ∧ pm_Cok q ∧ j < q.2.2 ∧ Cond.fieldLink own idx (q.2.1 j).1 (q.2.1 j).2.1 (q.2.1 j).2.2.1 ∈ pm_G
/-- a field that is written: final, its type -/
def pm_LP (own : String) (idx ci j : Nat) (fin : Bool) (ty : FieldType) : Prop := ∃ q : vw_C, vwCl[ci]? = some q ∧ pm_Cok q ∧ j < q.2.2 ∧ Cond.fieldLink own idx (q.2.1 j).1 (q.2.1 j).2.1 (q.2.1 j).2.2.1 ∈ pm_G ∧ (q.2.1 j).2.2.2 = fin ∧ parseFieldDescriptor (q.2.1 j).2.2.1 = some ty ∧ (fin = true → (q.2.1 j).1 = own)
section PH
variable {md : pm_D} {d lo : Nat} {lay0 lay lay' : List pm_S} {r : Option pm_V} {σ σ' : pm_M} {pc : Nat} {L : List (Option pm_V)} {S : List pm_V}
theorem pr_getI {t idx ci j : Nat} {fs : List pm_F} (hd : decode md.2.1 pc = .ok (.getfield idx, 3)) (hw : pm_L md.1.cls idx ci j) (hy : lay[t]? = some (ps_o ci fs)) (hf : fs[j]? = some none) (kk : pm_J md d lo lay0 r lay' σ' (pc + 3) L (pv_i (σ t j) :: S) lay σ) : pm_J md d lo lay0 r lay' σ' pc L (pv_r t :: S) lay σ := by
  refine ⟨kk.1, fun p l e s m args below meth c k A ad0 ad H locs ls X h1 h2 h3 hP hD hS hl => ?_⟩
  obtain ⟨q, hc, hok, hj, hlk⟩ := hw
  exact va_get (D := k.1) (ci := ci) (v := .int (Int32.ofInt (σ t j))) (C := q.1) (T := q.2.1) (N := q.2.2) X.1 X.2.1 X.2.2.2.2.2.1 (fun w h => pm_wds_in (hok.1 w h)) X.2.2.2.2.1 X.2.2.2.2.2.2.2.2.2.2 hP t (pm_W_at hy) hc j hj (X.2.2.2.2.2.1 _ (pm_wds_in hlk)) (fun _ h => h) (by rw [List.getElem?_mapIdx, hf]; rfl) hd (kk.2 p l e s m args below meth c k A ad0 ad H locs ls X h1 h2 h3 hP hD hS hl)
theorem pr_getR {t idx ci j o : Nat} {fs : List pm_F} (hd : decode md.2.1 pc = .ok (.getfield idx, 3)) (hw : pm_L md.1.cls idx ci j) (hy : lay[t]? = some (ps_o ci fs)) (hf : fs[j]? = some (some (some o))) (kk : pm_J md d lo lay0 r lay' σ' (pc + 3) L (pv_r o :: S) lay σ) : pm_J md d lo lay0 r lay' σ' pc L (pv_r t :: S) lay σ := by
  refine ⟨kk.1, fun p l e s m args below meth c k A ad0 ad H locs ls X h1 h2 h3 hP hD hS hl => ?_⟩
  obtain ⟨q, hc, hok, hj, hlk⟩ := hw
  exact va_get (D := k.1) (ci := ci) (v := .ref (ad o)) (C := q.1) (T := q.2.1) (N := q.2.2) X.1 X.2.1 X.2.2.2.2.2.1 (fun w h => pm_wds_in (hok.1 w h)) X.2.2.2.2.1 X.2.2.2.2.2.2.2.2.2.2 hP t (pm_W_at hy) hc j hj (X.2.2.2.2.2.1 _ (pm_wds_in hlk)) (fun _ h => h) (by rw [List.getElem?_mapIdx, hf]; rfl) hd (kk.2 p l e s m args below meth c k A ad0 ad H locs ls X h1 h2 h3 hP hD hS hl)
theorem pr_putT {t idx ci j : Nat} {x : Int} {fs : List pm_F} {ty : FieldType} (hd : decode md.2.1 pc = .ok (.putfield idx, 3)) (hw : pm_LP md.1.cls idx ci j false ty) (hy : lay[t]? = some (ps_o ci fs)) (hf : fs[j]? = some none) (hn : narrow ty (.int (Int32.ofInt x)) = .int (Int32.ofInt x)) (hfit : fits ty (.int (Int32.ofInt x)) = true) (kk : pm_J md d lo lay0 r lay' σ' (pc + 3) L S lay (pm_up σ t j x)) : pm_J md d lo lay0 r lay' σ' pc L (pv_i x :: pv_r t :: S) lay σ := by
  refine ⟨kk.1, fun p l e s m args below meth c k A ad0 ad H locs ls X h1 h2 h3 hP hD hS hl => ?_⟩
  obtain ⟨q, hc, ⟨hin, hnm, ty0, hty⟩, hj, hlk, hfin, hpd, -⟩ := hw
  have hlen : j < (fs.mapIdx (fun i f => pm_fld ad (σ t) i f)).length := by
    rw [List.length_mapIdx]
    exact (List.getElem?_eq_some_iff.mp hf).1
  refine va_put (D := k.1) (ci := ci) (v := .int (Int32.ofInt x)) (ty := ty) (C := q.1) (T := q.2.1) (N := q.2.2) X.1 X.2.1 X.2.2.2.2.2.1 (fun w h => pm_wds_in (hin w h)) ty0 hty hnm X.2.2.2.2.1 X.2.2.2.2.2.2.2.2.2.2 hP hD hS t (pm_W_at hy) hc j hj (X.2.2.2.2.2.1 _ (pm_wds_in hlk)) (fun _ h => h) hfin hpd hn hfit hlen hd (fun H1 locs1 hP1 hD1 hS1 => ?_)
  have e9 : pm_W k ad lay (pm_up σ t j x) = (pm_W k ad lay σ).set t (ad t, .inr (ci, (fs.mapIdx (fun i f => pm_fld ad (σ t) i f)).set j (.int (Int32.ofInt x)))) := by
    rw [pm_W_up hy, pm_flds_up hf, pm_up_at]
    rfl
  rw [← e9] at hP1 hD1
  exact kk.2 p l e s m args below meth c k A ad0 ad H1 locs1 ls X h1 h2 h3 hP1 hD1 hS1 hl
theorem pr_putI {t idx ci j : Nat} {x : Int} {fs : List pm_F} (hd : decode md.2.1 pc = .ok (.putfield idx, 3)) (hw : pm_LP md.1.cls idx ci j false .int) (hy : lay[t]? = some (ps_o ci fs)) (hf : fs[j]? = some none) (kk : pm_J md d lo lay0 r lay' σ' (pc + 3) L S lay (pm_up σ t j x)) : pm_J md d lo lay0 r lay' σ' pc L (pv_i x :: pv_r t :: S) lay σ := pr_putT hd hw hy hf rfl rfl kk
theorem pr_putZ {t idx ci j : Nat} {x : Int} {fs : List pm_F} (hd : decode md.2.1 pc = .ok (.putfield idx, 3)) (hw : pm_LP md.1.cls idx ci j false .boolean) (hy : lay[t]? = some (ps_o ci fs)) (hf : fs[j]? = some none) (hz : x = 0 ∨ x = 1) (kk : pm_J md d lo lay0 r lay' σ' (pc + 3) L S lay (pm_up σ t j x)) : pm_J md d lo lay0 r lay' σ' pc L (pv_i x :: pv_r t :: S) lay σ := by
  rcases hz with rfl | rfl
  · exact pr_putT hd hw hy hf (by decide) (by decide) kk
  · exact pr_putT hd hw hy hf (by decide) (by decide) kk
theorem pr_putR {t idx ci j o : Nat} {fs : List pm_F} {ty : FieldType} (hd : decode md.2.1 pc = .ok (.putfield idx, 3)) (hw : pm_LP md.1.cls idx ci j true ty) (hini : md.1.name = "<init>") (hr : (∃ n, ty = .object n) ∨ ∃ n, ty = .array n) (hy : lay[t]? = some (ps_o ci fs)) (hj : j < fs.length) (kk : pm_J md d lo lay0 r lay' σ' (pc + 3) L S (lay.set t (ps_o ci (fs.set j (some (some o))))) σ) : pm_J md d lo lay0 r lay' σ' pc L (pv_r o :: pv_r t :: S) lay σ := by
  have hs : pm_sl (lay.set t (ps_o ci (fs.set j (some (some o))))) = pm_sl lay := by
    unfold pm_sl
    congr 1
    apply List.ext_getElem?
    intro i
    rw [List.getElem?_map, List.getElem?_map]
    by_cases hi : i = t
    · subst hi
      rw [List.getElem?_set_self (List.getElem?_eq_some_iff.mp hy).1, hy]
      simp [pm_sz]
    · rw [List.getElem?_set_ne (Ne.symm hi)]
  have hlen : (lay.set t (ps_o ci (fs.set j (some (some o))))).length = lay.length := List.length_set
  have hm := kk.1
  rw [hs, hlen] at hm
  refine ⟨hm, fun p l e s m args below meth c k A ad0 ad H locs ls X h1 h2 h3 hP hD hS hl => ?_⟩
  obtain ⟨q, hc, ⟨hin, hnm, ty0, hty⟩, hjq, hlk, hfin, hpd, hown⟩ := hw
  have hlen2 : j < (fs.mapIdx (fun i f => pm_fld ad (σ t) i f)).length := by
    rw [List.length_mapIdx]
    exact hj
  have hn : narrow ty (.ref (ad o)) = .ref (ad o) := by
    rcases hr with ⟨n, rfl⟩ | ⟨n, rfl⟩ <;> rfl
  have hfit : fits ty (.ref (ad o)) = true := by
    rcases hr with ⟨n, rfl⟩ | ⟨n, rfl⟩ <;> rfl
  refine va_putF (D := k.1) (ci := ci) (v := .ref (ad o)) (ty := ty) (C := q.1) (T := q.2.1) (N := q.2.2) X.1 X.2.1 X.2.2.2.2.2.1 (fun w h => pm_wds_in (hin w h)) ty0 hty hnm X.2.2.2.2.1 X.2.2.2.2.2.2.2.2.2.2 hP hD hS t (pm_W_at hy) hc j hjq (X.2.2.2.2.2.1 _ (pm_wds_in hlk)) (fun _ h => h) hfin (X.2.2.2.2.2.2.2.1.trans hini) (hown rfl) hpd hn hfit hlen2 hd (fun H1 locs1 hP1 hD1 hS1 => ?_)
  have e9 : pm_W k ad (lay.set t (ps_o ci (fs.set j (some (some o))))) σ = (pm_W k ad lay σ).set t (ad t, .inr (ci, (fs.mapIdx (fun i f => pm_fld ad (σ t) i f)).set j (.ref (ad o)))) := by
    rw [pm_W_lay, pm_flds_set]
    rfl
  rw [← e9] at hP1 hD1
  have kx := kk.2 p l e s m args below meth c k A ad0 ad H1 locs1 ls X (by rw [hlen]; exact h1) (by rw [hlen]; exact h2) (by rw [hs]; exact h3) hP1 hD1 hS1 hl
  rw [hlen, hs] at kx
  exact kx
theorem pr_iald {a n : Nat} {i i' : Int} (hd : decode md.2.1 pc = .ok (.iaload, 1)) (hy : lay[a]? = some (ps_a n)) (hx : wr i = i') (hi : 0 ≤ i' ∧ i' < n) (kk : pm_J md d lo lay0 r lay' σ' (pc + 1) L (pv_i (σ a i'.toNat) :: S) lay σ) : pm_J md d lo lay0 r lay' σ' pc L (pv_i i :: pv_r a :: S) lay σ := by
  subst hx
  refine ⟨kk.1, fun p l e s m args below meth c k A ad0 ad H locs ls X h1 h2 h3 hP hD hS hl => ?_⟩
  exact va_iald (D := k.1) X.1 X.2.1 X.2.2.2.2.2.2.2.2.2.2 hP a 0 (pm_W_at hy) rfl (pm_in hi.1 hi.2) hd (kk.2 p l e s m args below meth c k A ad0 ad H locs ls X h1 h2 h3 hP hD hS hl)
theorem pr_iast {a n : Nat} {i i' x : Int} (hd : decode md.2.1 pc = .ok (.iastore, 1)) (hy : lay[a]? = some (ps_a n)) (hx : wr i = i') (hi : 0 ≤ i' ∧ i' < n) (kk : pm_J md d lo lay0 r lay' σ' (pc + 1) L S lay (pm_up σ a i'.toNat x)) : pm_J md d lo lay0 r lay' σ' pc L (pv_i x :: pv_i i :: pv_r a :: S) lay σ := by
  subst hx
  refine ⟨kk.1, fun p l e s m args below meth c k A ad0 ad H locs ls X h1 h2 h3 hP hD hS hl => ?_⟩
  refine va_iast (D := k.1) X.1 X.2.1 X.2.2.2.2.2.2.2.2.2.2 hP hD hS a 0 (pm_W_at hy) rfl (pm_in hi.1 hi.2) hd (fun H1 locs1 hP1 hD1 hS1 => ?_)
  have e9 : pm_W k ad lay (pm_up σ a (wr i).toNat x) = (pm_W k ad lay σ).set a (ad a, .inl (k.2.1, n, .inl (upd (fun i => Int32.ofInt (σ a i)) (Int32.ofInt i).toNatClampNeg (Int32.ofInt x)))) := by
    rw [pm_W_up hy, pm_up_at]
    have e8 : (fun i_1 => Int32.ofInt (if i_1 = (wr i).toNat then x else σ a i_1)) = upd (fun i => Int32.ofInt (σ a i)) (Int32.ofInt i).toNatClampNeg (Int32.ofInt x) := by
      funext j
      unfold upd
      rw [pm_cl]
      split <;> rfl
    rw [← e8]
    rfl
  rw [← e9] at hP1 hD1
  exact kk.2 p l e s m args below meth c k A ad0 ad H1 locs1 ls X h1 h2 h3 hP1 hD1 hS1 hl
theorem pr_alen {a n : Nat} (hd : decode md.2.1 pc = .ok (.arraylength, 1)) (hy : lay[a]? = some (ps_a n)) (kk : pm_J md d lo lay0 r lay' σ' (pc + 1) L (pv_i n :: S) lay σ) : pm_J md d lo lay0 r lay' σ' pc L (pv_r a :: S) lay σ := by
  refine ⟨kk.1, fun p l e s m args below meth c k A ad0 ad H locs ls X h1 h2 h3 hP hD hS hl => ?_⟩
  exact va_alen (D := k.1) X.1 X.2.1 X.2.2.2.2.2.2.2.2.2.2 hP a 0 (pm_W_at hy) (ty := .int) rfl (v := Int32.ofInt n) rfl hd (kk.2 p l e s m args below meth c k A ad0 ad H locs ls X h1 h2 h3 hP hD hS hl)
theorem pr_aald {a o : Nat} {rs : List Nat} {i i' : Int} (hd : decode md.2.1 pc = .ok (.aaload, 1)) (hy : lay[a]? = some (ps_q rs)) (hx : wr i = i') (h0 : 0 ≤ i') (hi : rs[i'.toNat]? = some o) (kk : pm_J md d lo lay0 r lay' σ' (pc + 1) L (pv_r o :: S) lay σ) : pm_J md d lo lay0 r lay' σ' pc L (pv_i i :: pv_r a :: S) lay σ := by
  subst hx
  refine ⟨kk.1, fun p l e s m args below meth c k A ad0 ad H locs ls X h1 h2 h3 hP hD hS hl => ?_⟩
  have hlt : (wr i).toNat < rs.length := (List.getElem?_eq_some_iff.mp hi).1
  have hin : vp_in (Int32.ofInt i) rs.length := pm_in h0 (by omega)
  refine W.aald (v := .ref (ad o)) (ty := .array .int) X.1 X.2.1 (hP a _ (pm_W_at hy)) ((X.2.2.2.2.2.2.2.2.2.2.2 1 (k.2.2.1, .array .int) rfl).1 rs.length (fun j => va_rf ((rs[j]?).map ad))) rfl (fun q => by cases q) (by show ¬ (Int32.ofInt i < 0 ∨ (arrV _ _ _).slots.size ≤ _); rw [arrV_size]; exact hin) (by show (arrV _ _ _).slots[_]? = _; rw [arrV_read _ _ (show (Int32.ofInt i).toNatClampNeg < rs.length from hlt)]; show some (va_rf ((rs[(wr i).toNat]?).map ad)) = _; rw [hi]; rfl) rfl rfl hd (kk.2 p l e s m args below meth c k A ad0 ad H locs ls X h1 h2 h3 hP hD hS hl)
theorem pr_gets {idx j : Nat} {q : String × String × List Int} (hd : decode md.2.1 pc = .ok (.getstatic idx, 3)) (hq : pm_st[j]? = some q) (hw : Cond.fieldLink md.1.cls idx q.1 q.2.1 "[I" ∈ pm_G) (kk : pm_J md d lo lay0 r lay' σ' (pc + 3) L (pv_s j :: S) lay σ) : pm_J md d lo lay0 r lay' σ' pc L S lay σ := by
  refine ⟨kk.1, fun p l e s m args below meth c k A ad0 ad H locs ls X h1 h2 h3 hP hD hS hl => ?_⟩
  exact va_gets X.1 X.2.1 (X.2.2.2.2.2.2.2.2.2.1.1 j q hq).1 hS X.2.2.2.2.1 (X.2.2.2.2.2.1 _ (pm_wds_in hw)) (fun _ h => h) hd (kk.2 p l e s m args below meth c k A ad0 ad H locs ls X h1 h2 h3 hP hD hS hl)
theorem pr_getsN {idx j : Nat} {q : String × String × List Int} {host : String} (hd : decode md.2.1 pc = .ok (.getstatic idx, 3)) (hq : pm_st[j]? = some q) (hw : Cond.fieldLinkNest md.1.cls idx q.1 q.2.1 "[I" host ∈ pm_nw) (kk : pm_J md d lo lay0 r lay' σ' (pc + 3) L (pv_s j :: S) lay σ) : pm_J md d lo lay0 r lay' σ' pc L S lay σ := by
  refine ⟨kk.1, fun p l e s m args below meth c k A ad0 ad H locs ls X h1 h2 h3 hP hD hS hl => ?_⟩
  exact va_getsN X.1 X.2.1 (X.2.2.2.2.2.2.2.2.2.1.1 j q hq).1 hS X.2.2.2.2.1 (va_Nw.use rfl (X.2.2.2.2.2.2.2.2.2.1.2.1 _ hw)) (fun _ h => h) hd (kk.2 p l e s m args below meth c k A ad0 ad H locs ls X h1 h2 h3 hP hD hS hl)
theorem pr_sald {j : Nat} {q : String × String × List Int} {i i' : Int} (hd : decode md.2.1 pc = .ok (.iaload, 1)) (hq : pm_st[j]? = some q) (hx : wr i = i') (hi : 0 ≤ i' ∧ i' < q.2.2.length) (kk : pm_J md d lo lay0 r lay' σ' (pc + 1) L (pv_i (q.2.2.getD i'.toNat 0) :: S) lay σ) : pm_J md d lo lay0 r lay' σ' pc L (pv_i i :: pv_s j :: S) lay σ := by
  subst hx
  refine ⟨kk.1, fun p l e s m args below meth c k A ad0 ad H locs ls X h1 h2 h3 hP hD hS hl => ?_⟩
  exact va_ti X.1 X.2.1 (X.2.2.2.2.2.2.2.2.2.1.1 j q hq).2 hS (pm_in hi.1 hi.2) rfl hd (kk.2 p l e s m args below meth c k A ad0 ad H locs ls X h1 h2 h3 hP hD hS hl)
theorem pr_tsIn {dflt lw hi : Int} {offs : Array Int} {len : Nat} {x x' off : Int} {j tgt : Nat} (hd : decode md.2.1 pc = .ok (.tableswitch dflt lw hi offs, len)) (hx : wr x = x') (hj : x' = lw + j) (hh : lw + j ≤ hi) (ho : offs[j]? = some off) (ht : (pc : Int) + off = (tgt : Int)) (kk : pm_J md d lo lay0 r lay' σ' tgt L S lay σ) : pm_J md d lo lay0 r lay' σ' pc L (pv_i x :: S) lay σ := by
  subst hx
  refine ⟨kk.1, fun p l e s m args below meth c k A ad0 ad H locs ls X h1 h2 h3 hP hD hS hl => ?_⟩
  have e9 : (Int32.ofInt x).toInt = lw + j := hj
  exact lv_tableIn X.1 X.2.1 hd (by rw [e9]; omega) (by rw [e9]; omega) (by rw [e9, show (lw + (j : Int) - lw).toNat = j by omega]; exact ho) ht (kk.2 p l e s m args below meth c k A ad0 ad H locs ls X h1 h2 h3 hP hD hS hl)
theorem pr_tsOut {dflt lw hi : Int} {offs : Array Int} {len : Nat} {x x' : Int} {tgt : Nat} (hd : decode md.2.1 pc = .ok (.tableswitch dflt lw hi offs, len)) (hx : wr x = x') (hh : x' < lw ∨ hi < x') (ht : (pc : Int) + dflt = (tgt : Int)) (kk : pm_J md d lo lay0 r lay' σ' tgt L S lay σ) : pm_J md d lo lay0 r lay' σ' pc L (pv_i x :: S) lay σ := by
  subst hx
  refine ⟨kk.1, fun p l e s m args below meth c k A ad0 ad H locs ls X h1 h2 h3 hP hD hS hl => ?_⟩
  exact lv_tableOut X.1 X.2.1 hd hh ht (kk.2 p l e s m args below meth c k A ad0 ad H locs ls X h1 h2 h3 hP hD hS hl)
end PH
