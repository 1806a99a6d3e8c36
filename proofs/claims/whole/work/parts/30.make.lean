/-! ===== rows that make cells ===== -/
/-- the references of shapes lie below n -/
def pm_sb (n : Nat) (S : pm_S) : Bool := match S with
  | .inl _ => true
  | .inr (.inl rs) => rs.all (fun r => decide (r < n))
  | .inr (.inr (_, fs)) => fs.all (fun f => match f with | some (some r) => decide (r < n) | _ => true)
def pm_wl (lay : List pm_S) : Bool := lay.all (pm_sb lay.length)
theorem pm_cell_ext {k : pm_K} {ad ad' : Nat → Nat} {n : Nat} (h : ∀ c, c < n → ad' c = ad c) {m : Nat → Int} {S : pm_S} (hS : pm_sb n S = true) : pm_cell k ad' m S = pm_cell k ad m S := by
  rcases S with x | rs | ⟨ci, fs⟩
  · rfl
  · show Sum.inl (k.2.2.1, rs.length, _) = Sum.inl (k.2.2.1, rs.length, _)
    have e : (fun i : Nat => (rs[i]?).map ad') = (fun i : Nat => (rs[i]?).map ad) := by
      funext i
      cases hi : rs[i]? with
      | none => rfl
      | some r =>
        have := List.all_eq_true.mp hS r (List.mem_of_getElem? hi)
        show some (ad' r) = some (ad r)
        rw [h r (by simpa using this)]
    rw [e]
  · show Sum.inr (ci, _) = Sum.inr (ci, _)
    congr 2
    apply List.ext_getElem?
    intro i
    rw [List.getElem?_mapIdx, List.getElem?_mapIdx]
    cases hi : fs[i]? with
    | none => rfl
    | some f =>
      have := List.all_eq_true.mp hS f (List.mem_of_getElem? hi)
      rcases f with _ | _ | r
      · rfl
      · rfl
      · show some (Value.ref (ad' r)) = some (Value.ref (ad r))
        rw [h r (by simpa using this)]
theorem pm_W_ext {k : pm_K} {ad ad' : Nat → Nat} {lay : List pm_S} {σ : pm_M} (h : ∀ c, c < lay.length → ad' c = ad c) (hl : pm_wl lay = true) : pm_W k ad' lay σ = pm_W k ad lay σ := by
  apply List.ext_getElem?
  intro i
  unfold pm_W
  rw [List.getElem?_mapIdx, List.getElem?_mapIdx]
  cases hi : lay[i]? with
  | none => rfl
  | some S =>
    have hlt : i < lay.length := (List.getElem?_eq_some_iff.mp hi).1
    show some (ad' i, pm_cell k ad' (σ i) S) = some (ad i, pm_cell k ad (σ i) S)
    rw [h i hlt, pm_cell_ext h (List.all_eq_true.mp hl S (List.mem_of_getElem? hi))]
theorem pm_W_app {k : pm_K} {ad : Nat → Nat} {lay : List pm_S} {σ : pm_M} {S : pm_S} : pm_W k ad (lay ++ [S]) σ = pm_W k ad lay σ ++ [(ad lay.length, pm_cell k ad (σ lay.length) S)] := by
  unfold pm_W
  rw [List.mapIdx_append]
  simp
theorem pm_sl_app (lay : List pm_S) (S : pm_S) : pm_sl (lay ++ [S]) = pm_sl lay + pm_sz S := by
  unfold pm_sl
  rw [List.map_append, List.sum_append]
  simp
def pm_zero (n : Nat) (σ : pm_M) : Prop := ∀ c j, n ≤ c → σ c j = 0
/-- a new object's fields -/
def pm_blank (q : vw_C) (fs : List pm_F) : Prop := fs.length = q.2.2 ∧ ∀ j, j < q.2.2 → (parseFieldDescriptor (q.2.1 j).2.2.1).map defaultValue = (fs[j]?).map (fun f => match f with | none => .int 0 | some _ => .null) ∧ (fs[j]? = some none ∨ fs[j]? = some (some none))
def pm_NW (own : String) (idx : Nat) (q : vw_C) : Prop := pm_Cok q ∧ Cond.classLink own idx q.1 ∈ pm_G ∧ Cond.instantiable q.1 q.2.2 ∈ pm_G ∧ Cond.initialized q.1 ∈ pm_G
section PN
variable {md md2 : pm_D} {d lo d2 lo2 n : Nat} {lay0 lay lay' lay2 : List pm_S} {r r2 : Option pm_V} {σ σ' σ2 : pm_M} {pc idx : Nat} {L : List (Option pm_V)} {S S0 As av : List pm_V}
theorem pr_new {ci : Nat} {q : vw_C} {fs : List pm_F} (hd : decode md.2.1 pc = .ok (.new idx, 3)) (hw : pm_NW md.1.cls idx q) (hc : vwCl[ci]? = some q) (hb : pm_blank q fs) (hn : lay.length = n) (hz : pm_zero n σ) (hwf : pm_wf n L S = true) (hwl : pm_wl lay = true) (h2 : lay ++ [ps_o ci fs] = lay2) (kk : pm_J md d lo lay0 r lay' σ' (pc + 3) L (pv_r n :: S) lay2 σ) : pm_J md d lo lay0 r lay' σ' pc L S lay σ := by
  subst h2
  subst hn
  have hm := kk.1
  rw [List.length_append, pm_sl_app] at hm
  have hfl : pm_sz (ps_o ci fs) = q.2.2 := hb.1
  rw [hfl] at hm
  refine ⟨⟨by simp at hm; omega, by omega⟩, fun p l e s m args below meth c k A ad0 ad H locs ls X h1 h2 h3 hP hD hS hl => ?_⟩
  obtain ⟨⟨hin, hnm, ty0, hty⟩, w1, w2, w3⟩ := hw
  refine va_new (D := k.1) (ci := ci) (fs := fs.mapIdx (fun j f => pm_fld ad (σ lay.length) j f)) (C := q.1) (T := q.2.1) (N := q.2.2) X.1 X.2.1 X.2.2.2.2.2.1 (fun w h => pm_wds_in (hin w h)) ty0 hty X.2.2.2.2.1 (X.2.2.2.2.2.1 _ (pm_wds_in w1)) (X.2.2.2.2.2.1 _ (pm_wds_in w2)) (X.2.2.2.2.2.1 _ (pm_wds_in w3)) X.2.2.2.2.2.2.2.2.2.2 hP hD hS X.2.2.2.2.2.2.2.2.1 hc ?_ (by show _ ≤ lay'.length - lay0.length; simp at hm; omega) (by show _ ≤ pm_sl lay' - pm_sl lay0; omega) hd (fun q0 H1 hP1 hD1 hS1 => ?_)
  · intro j hj
    obtain ⟨g1, g2⟩ := hb.2 j hj
    rw [hty j hj] at g1
    unfold vp_V
    rw [List.getD_eq_getElem?_getD, List.getElem?_mapIdx]
    rcases g2 with g2 | g2
    · rw [g2] at g1 ⊢
      have e1 : defaultValue (ty0 j) = .int 0 := Option.some.inj g1
      rw [e1]
      show Value.int 0 = Value.int (Int32.ofInt (σ lay.length j))
      rw [hz lay.length j (Nat.le_refl _)]
      rfl
    · rw [g2] at g1 ⊢
      exact Option.some.inj g1
  · have had : ∀ c, c < lay.length → (fun c => if c = lay.length then q0 else ad c) c = ad c := fun c h => if_neg (by omega)
    have eW : pm_W k (fun c => if c = lay.length then q0 else ad c) (lay ++ [ps_o ci fs]) σ = pm_W k ad lay σ ++ [(q0, .inr (ci, fs.mapIdx (fun j f => pm_fld ad (σ lay.length) j f)))] := by
      rw [pm_W_app, pm_W_ext had hwl]
      congr 2
      show (if lay.length = lay.length then q0 else ad lay.length, pm_cell k _ (σ lay.length) (ps_o ci fs)) = _
      rw [if_pos rfl]
      show (q0, Sum.inr (ci, _)) = (q0, Sum.inr (ci, _))
      congr 3
      apply List.ext_getElem?
      intro i
      rw [List.getElem?_mapIdx, List.getElem?_mapIdx]
      cases hi : fs[i]? with
      | none => rfl
      | some f =>
        have hlt : i < q.2.2 := by rw [← hb.1]; exact (List.getElem?_eq_some_iff.mp hi).1
        rcases (hb.2 i hlt).2 with g | g
        · rw [hi] at g; cases g; rfl
        · rw [hi] at g; cases g; rfl
    rw [← eW] at hP1 hD1
    have kx := kk.2 p l e s m args below meth c k A ad0 (fun c => if c = lay.length then q0 else ad c) H1 locs ls X (fun c hc => by
      rcases hc with hc | hc
      · show (if c = lay.length then q0 else ad c) = ad0 c
        rw [if_neg (by omega)]
        exact h1 c (Or.inl hc)
      · have hc' : lay.length + 1 ≤ c := by simpa using hc
        show (if c = lay.length then q0 else ad c) = ad0 c
        rw [if_neg (by omega)]
        exact h1 c (Or.inr (by omega))) (by simp; omega) (by rw [pm_sl_app]; omega) hP1 hD1 hS1 (pm_wf_L hwf had hl)
    have es : (pv_r lay.length :: S).map (pm_cv (fun c => if c = lay.length then q0 else ad c) k.2.2.2) = .ref q0 :: S.map (pm_cv ad k.2.2.2) := by
      show Value.ref (if lay.length = lay.length then q0 else ad lay.length) :: _ = _
      rw [if_pos rfl, pm_wf_S hwf had]
    rw [es] at kx
    refine W.cs ?_ ?_ kx
    · simp; omega
    · rw [pm_sl_app, hfl]; omega
theorem pr_newa {x : Int} {N : Nat} (hd : decode md.2.1 pc = .ok (.newarray .int, 2)) (hw : Cond.arrayClass .int ∈ pm_G) (hx : wr x = (N : Int)) (hN : N * 4 ≤ 536870912) (hn : lay.length = n) (hz : pm_zero n σ) (hwf : pm_wf n L S = true) (hwl : pm_wl lay = true) (h2 : lay ++ [ps_a N] = lay2) (kk : pm_J md d lo lay0 r lay' σ' (pc + 2) L (pv_r n :: S) lay2 σ) : pm_J md d lo lay0 r lay' σ' pc L (pv_i x :: S) lay σ := by
  subst h2
  subst hn
  have hm := kk.1
  rw [List.length_append, pm_sl_app] at hm
  have hfl : pm_sz (ps_a N) = N := rfl
  rw [hfl] at hm
  refine ⟨⟨by simp at hm; omega, by omega⟩, fun p l e s m args below meth c k A ad0 ad H locs ls X h1 h2 h3 hP hD hS hl => ?_⟩
  refine va_newa (atype := .int) (D := k.1) X.1 X.2.1 (X.2.2.2.2.2.1 _ (pm_wds_in hw)) rfl X.2.2.2.2.2.2.2.2.2.2 hP hD hS X.2.2.2.2.2.2.2.2.1 (N' := N) (a0 := (N, .inl (fun _ => 0))) (fun _ => rfl) (fun q => by have := (pm_lt0 x).mp q; omega) (by rw [pm_cl, hx]; rfl) hN (by show _ ≤ lay'.length - lay0.length; simp at hm; omega) (by show _ ≤ pm_sl lay' - pm_sl lay0; omega) hd (fun q0 cA H1 hK1 hP1 hD1 hS1 => ?_)
  have eA : cA = k.2.1 := by
    have g1 := (hK1.2 2 (cA, .int) rfl).2
    have g2 := (X.2.2.2.2.2.2.2.2.2.2.2 0 (k.2.1, .int) rfl).2
    exact Option.some.inj (g1.symm.trans g2)
  subst eA
  have had : ∀ c, c < lay.length → (fun c => if c = lay.length then q0 else ad c) c = ad c := fun c h => if_neg (by omega)
  have eW : pm_W k (fun c => if c = lay.length then q0 else ad c) (lay ++ [ps_a N]) σ = pm_W k ad lay σ ++ [(q0, .inl (k.2.1, N, .inl (fun _ => 0)))] := by
    rw [pm_W_app, pm_W_ext had hwl]
    congr 2
    show (if lay.length = lay.length then q0 else ad lay.length, Sum.inl (k.2.1, N, Sum.inl (fun i => Int32.ofInt (σ lay.length i)))) = _
    have e0 : (fun i => Int32.ofInt (σ lay.length i)) = fun _ => 0 := by
      funext i
      rw [hz lay.length i (Nat.le_refl _)]
      rfl
    rw [if_pos rfl, e0]
  rw [← eW] at hP1 hD1
  have kx := kk.2 p l e s m args below meth c k A ad0 (fun c => if c = lay.length then q0 else ad c) H1 locs ls X (fun c hc => by
    rcases hc with hc | hc
    · show (if c = lay.length then q0 else ad c) = ad0 c
      rw [if_neg (by omega)]
      exact h1 c (Or.inl hc)
    · have hc' : lay.length + 1 ≤ c := by simpa using hc
      show (if c = lay.length then q0 else ad c) = ad0 c
      rw [if_neg (by omega)]
      exact h1 c (Or.inr (by omega))) (by simp; omega) (by rw [pm_sl_app]; omega) hP1 hD1 hS1 (pm_wf_L hwf had hl)
  have es : (pv_r lay.length :: S).map (pm_cv (fun c => if c = lay.length then q0 else ad c) k.2.2.2) = .ref q0 :: S.map (pm_cv ad k.2.2.2) := by
    show Value.ref (if lay.length = lay.length then q0 else ad lay.length) :: _ = _
    rw [if_pos rfl, pm_wf_S hwf had]
  rw [es] at kx
  refine W.cs ?_ ?_ kx
  · simp; omega
  · rw [pm_sl_app, hfl]; omega
def pm_OI (own : String) (idx : Nat) : Prop := Cond.methodLink own idx Lib.objectInit ∈ pm_G ∧ Cond.instanceMethod Lib.objectInit ∈ pm_G ∧ Cond.code Lib.objectInit ⟨#[0xb1]⟩ 1 none ∈ pm_G
theorem pr_oinit {t : Nat} (hd : decode md.2.1 pc = .ok (.invokespecial idx, 3)) (hw : pm_OI md.1.cls idx) (hf : 1 ≤ d) (hlo : (S.map pm_ct).sum + 12 ≤ lo) (kk : pm_J md d lo lay0 r lay' σ' (pc + 3) L S lay σ) : pm_J md d lo lay0 r lay' σ' pc L (pv_r t :: S) lay σ := by
  refine ⟨kk.1, fun p l e s m args below meth c k A ad0 ad H locs ls X h1 h2 h3 hP hD hS hl => ?_⟩
  obtain ⟨w1, w2, w3⟩ := hw
  exact W.objInit (g := F0 m pc ls ((pv_r t :: S).map (pm_cv ad k.2.2.2))) X.1 X.2.1 X.2.2.2.2.1 (X.2.2.2.2.2.1 _ (pm_wds_in w1)) (X.2.2.2.2.2.1 _ (pm_wds_in w2)) (X.2.2.2.2.2.1 _ (pm_wds_in w3)) rfl (by rw [X.2.2.2.1]; exact hl.1) rfl hd hf (by show 2 * 0 + _ + 12 ≤ lo; rw [pm_cats]; omega) (kk.2 p l e s m args below meth c k A ad0 ad H locs ls X h1 h2 h3 hP hD hS hl)
theorem pr_callI {t : Nat} (hd : decode md.2.1 pc = .ok (.invokespecial idx, 3)) (hw : pm_MI md.1.cls idx md2 n) (hn : As.length = n) (hst : S0 = As.reverse ++ pv_r t :: S) (h8 : (S.map pm_ct).sum ≤ 8) (hf : d2 + 1 ≤ d) (hlo : 8 + (md2.2.2.1 + 11) + lo2 ≤ lo) (hwf : lay2.length = lay.length ∨ pm_wf lay.length L S = true)
    (hC : pm_C md2 d2 lo2 (pv_r t :: As) lay σ r2 lay2 σ2) (kk : pm_J md d lo lay0 r lay' σ' (pc + 3) L (r2.toList ++ S) lay2 σ2) : pm_J md d lo lay0 r lay' σ' pc L S0 lay σ := by
  have hm := hC.1
  refine ⟨⟨Nat.le_trans hm.1 kk.1.1, Nat.le_trans hm.2 kk.1.2⟩, fun p l e s m args below meth c k A ad0 ad H locs ls X h1 h2 h3 hP hD hS hl => ?_⟩
  refine pm_after hC hwf kk X h1 h2 h3 hD hS hl (a := (Value.ref (ad t) :: As.map (pm_cv ad k.2.2.2)).toArray) ?_
  obtain ⟨⟨w1, w2, w3⟩, w4, w5, w6, w7⟩ := hw
  exact va_runI (As := As.map (pm_cv ad k.2.2.2)) (rest := S.map (pm_cv ad k.2.2.2)) (nL := md.2.2.1) ⟨X.1, X.2.1, X.2.2.2.1, X.2.2.2.2.1, X.2.2.2.2.2.1⟩ (hC.2 l k ad H.size) (cwI n X.2.2.2.2.2.1 (pm_good w2) (by unfold pm_wds; rw [w7]) rfl rfl (X.2.2.2.2.2.1 _ (pm_wds_in w1)) (X.2.2.2.2.2.1 _ (pm_wds_in w4)) (X.2.2.2.2.2.1 _ (pm_wds_in w5)) w6 w3 ⟨hf, hlo⟩)
    ⟨pm_blind, pm_pre X hP hD hS⟩ rfl (by rw [List.length_map]; exact hn) hl.1 (by rw [hst]; show List.map _ _ = _; rw [List.map_append, List.map_reverse]; rfl) (lv_room (by rw [pm_cats]; exact h8)) hd (pm_room hC kk.1 h2 h3)
theorem pr_callIN {t : Nat} (hd : decode md.2.1 pc = .ok (.invokespecial idx, 3)) (hw : pm_MIN md.1.cls idx md2 n) (hn : As.length = n) (hst : S0 = As.reverse ++ pv_r t :: S) (h8 : (S.map pm_ct).sum ≤ 8) (hf : d2 + 1 ≤ d) (hlo : 8 + (md2.2.2.1 + 11) + lo2 ≤ lo) (hwf : lay2.length = lay.length ∨ pm_wf lay.length L S = true)
    (hC : pm_C md2 d2 lo2 (pv_r t :: As) lay σ r2 lay2 σ2) (kk : pm_J md d lo lay0 r lay' σ' (pc + 3) L (r2.toList ++ S) lay2 σ2) : pm_J md d lo lay0 r lay' σ' pc L S0 lay σ := by
  have hm := hC.1
  refine ⟨⟨Nat.le_trans hm.1 kk.1.1, Nat.le_trans hm.2 kk.1.2⟩, fun p l e s m args below meth c k A ad0 ad H locs ls X h1 h2 h3 hP hD hS hl => ?_⟩
  refine pm_after hC hwf kk X h1 h2 h3 hD hS hl (a := (Value.ref (ad t) :: As.map (pm_cv ad k.2.2.2)).toArray) ?_
  obtain ⟨⟨w1, w2, w3⟩, ⟨host, w4⟩, w5, w6, w7⟩ := hw
  exact va_runIN (bytes := md2.2.1) (maxL := md2.2.2.1) (As := As.map (pm_cv ad k.2.2.2)) (rest := S.map (pm_cv ad k.2.2.2)) (nL := md.2.2.1) ⟨X.1, X.2.1, X.2.2.2.1, X.2.2.2.2.1, X.2.2.2.2.2.1⟩ (hC.2 l k ad H.size) ⟨va_cnB n X.2.2.2.2.2.1 (pm_good w2) (by unfold pm_wds; rw [w7]) rfl rfl (X.2.2.2.2.2.2.2.2.2.1.2.1 _ w4) (X.2.2.2.2.2.1 _ (pm_wds_in w1)) w3 ⟨hf, hlo⟩, w6, X.2.2.2.2.2.1 _ (pm_wds_in w5)⟩
    ⟨pm_blind, pm_pre X hP hD hS⟩ rfl (by rw [List.length_map]; exact hn) hl.1 (by rw [hst]; show List.map _ _ = _; rw [List.map_append, List.map_reverse]; rfl) (lv_room (by rw [pm_cats]; exact h8)) hd (pm_room hC kk.1 h2 h3)
end PN
