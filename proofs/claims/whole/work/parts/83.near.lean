/-! ===== old sheets ===== -/
def sm (f : Nat → Int) : Nat → Int
  | 0 => 0
  | n + 1 => sm f n + f n
theorem sm_s (f : Nat → Int) (n : Nat) : sm f (n + 1) = sm f n + f n := rfl
def ly (d : Nat → Int) (t : Int) : Nat → Bool
  | 0 => true
  | n + 1 => ly d t n && decide (wr (d n) ≤ t)
theorem ly_s (d : Nat → Int) (t : Int) (n : Nat) : ly d t (n + 1) = (ly d t n && decide (wr (d n) ≤ t)) := rfl
theorem ly_f {d : Nat → Int} {t : Int} {n m : Nat} (h : ly d t n = false) (hm : n ≤ m) : ly d t m = false := by
  induction m with
  | zero => rw [show n = 0 by omega] at h; exact h
  | succ m ih =>
    by_cases e : n = m + 1
    · rw [← e]; exact h
    · rw [ly_s, ih (by omega)]; rfl
/-- what a group's mark differs by -/
def dd (σ : pm_M) (p g w : Nat) : Int := if σ 90 w = -1 then 0 else pm_abs (σ 90 w - σ 28 ((p * 4 + g) * 6 + w))
def gi (σ : pm_M) (p i : Nat) : Nat := if ((i / 2 : Nat) : Int) < σ 29 p then i % 2 else i % 2 + 2
section OS
variable {σC σM : pm_M} {p g w i : Nat}
theorem e_dif (hol : R_old σC σM) (hp : p < 80) (hg : g < 4) (hw : w < 6) : fX4_differsBy p g w σC = some (dd σC p g w) := by
  obtain ⟨a1, a2, a3⟩ := hol w hw
  have i1 : Int.toNat (((p : Int) * 4 + g) * 6 + w) = (p * 4 + g) * 6 + w := by omega
  unfold fX4_differsBy fX2_groupMark dd
  by_cases c : σC 90 w = -1
  · simp (disch := omega) only [wr_eq, pm_gt, Int.toNat_natCast, if_pos, if_true]
  · simp (disch := omega) only [wr_eq, pm_gt, Int.toNat_natCast, if_neg, if_false, i1, Option.bind_some, Nat.reduceAdd]
theorem k_mark (hmr : R_mrk σC σM) (hp : (p : Int) < σC 26 8) (hi : i < 60) (hw : w < 6) : σM 22 (6 * (60 * p + i) + w) = σC 28 ((p * 4 + gi σC p i) * 6 + w) ∧ 0 ≤ σC 28 ((p * 4 + gi σC p i) * 6 + w) ∧ σC 28 ((p * 4 + gi σC p i) * 6 + w) ≤ 99 := by
  obtain ⟨-, -, -, -, -, -, k7⟩ := hmr
  obtain ⟨-, -, a⟩ := k7 p hp
  obtain ⟨b1, b2, b3⟩ := a i w hi hw
  unfold gi
  rw [← b1]
  exact ⟨rfl, b2, b3⟩
theorem e_far (hol : R_old σC σM) (hmr : R_mrk σC σM) (hp : (p : Int) < σC 26 8) (h8 : σC 26 8 ≤ 80) (hi : i < 60) (hw : w < 6) : fX12_far ((60 * p + i : Nat) : Int) w σM = some (dd σC p (gi σC p i) w) := by
  obtain ⟨a1, a2, a3⟩ := hol w hw
  obtain ⟨b1, -⟩ := k_mark hmr hp hi hw
  have i1 : Int.toNat (6 * ((60 * p + i : Nat) : Int) + w) = 6 * (60 * p + i) + w := by omega
  unfold fX12_far dd
  by_cases c : σC 90 w = -1
  · simp (disch := omega) only [wr_eq, pm_gt, Int.toNat_natCast, if_neg, if_pos, if_true, if_false, ← a1]
  · simp (disch := omega) only [wr_eq, pm_gt, Int.toNat_natCast, if_neg, if_pos, if_true, if_false, ← a1, i1, b1]
theorem dd_b (hol : R_old σC σM) (hmr : R_mrk σC σM) (hp : (p : Int) < σC 26 8) (hi : i < 60) (hw : w < 6) : 0 ≤ dd σC p (gi σC p i) w ∧ dd σC p (gi σC p i) w ≤ 99 := by
  obtain ⟨a1, a2, a3⟩ := hol w hw
  obtain ⟨b1, b2, b3⟩ := k_mark hmr hp hi hw
  unfold dd pm_abs
  split
  · decide
  · rw [wr_eq (by omega) (by omega)]
    split <;> omega
theorem gi_b : gi σC p i < 4 := by
  unfold gi
  split <;> omega
set_option maxHeartbeats 4000000 in
theorem e_lies {t : Int} (hol : R_old σC σM) (ht : wr t = t) (hp : p < 80) (hg : g < 4) : fX4_liesBy p g t σC = some (if ly (dd σC p g) t 6 = true then 1 else 0) := by
  unfold fX4_liesBy
  obtain ⟨y, e1, hQ⟩ := pm_it_ok (f := fun a : Int => bdX4_liesBy_3 p g t σC a)
    (fun a => ∃ z : Nat, a = z ∧ z ≤ 6 ∧ ly (dd σC p g) t z = true)
    (fun y => (∃ k, y = .inr k ∧ ly (dd σC p g) t 6 = true) ∨ (∃ k, y = .inl k ∧ ly (dd σC p g) t 6 = false)) (fun a => 6 - a.toNat) (by
      rintro a ⟨z, hz, hle, hl⟩
      subst hz
      by_cases c : z = 6
      · subst c
        refine Or.inl ⟨.inr ((6 : Nat) : Int), ?_, Or.inl ⟨_, rfl, hl⟩⟩
        unfold bdX4_liesBy_3
        simp (disch := omega) only [wr_eq, if_pos, if_true]
      · have ed := e_dif (g := g) hol hp hg (show z < 6 by omega)
        by_cases c1 : wr (dd σC p g z) ≤ t
        · refine Or.inr ⟨(z : Int) + 1, ?_, ⟨z + 1, by simp, by omega, ?_⟩, by simp; omega⟩
          · unfold bdX4_liesBy_3
            rw [ed, Option.bind_some, ht, if_pos c1]
            simp (disch := omega) only [wr_eq, if_neg, if_false]
          · rw [ly_s, hl, decide_eq_true c1]; rfl
        · refine Or.inl ⟨.inl (z : Int), ?_, Or.inr ⟨_, rfl, ?_⟩⟩
          · unfold bdX4_liesBy_3
            rw [ed, Option.bind_some, ht, if_neg c1]
            simp (disch := omega) only [wr_eq, if_neg, if_false]
          · refine ly_f (n := z + 1) ?_ (by omega)
            rw [ly_s, decide_eq_false c1, Bool.and_false]) pm_fuel 0 ⟨0, rfl, by omega, rfl⟩ (pm_fl (by decide))
  rw [e1, Option.bind_some]
  rcases hQ with ⟨k, q1, q2⟩ | ⟨k, q1, q2⟩
  · subst q1
    rw [if_pos q2]
  · subst q1
    rw [if_neg (by rw [q2]; decide)]
set_option maxHeartbeats 4000000 in
theorem e_isBy {t : Int} (hol : R_old σC σM) (hmr : R_mrk σC σM) (ht : wr t = t) (hp : (p : Int) < σC 26 8) (h8 : σC 26 8 ≤ 80) (hi : i < 60) : fX12_isBy ((60 * p + i : Nat) : Int) t σM = some (if ly (dd σC p (gi σC p i)) t 6 = true then 1 else 0) := by
  unfold fX12_isBy
  obtain ⟨y, e1, hQ⟩ := pm_it_ok (f := fun a : Int × Int => bdX12_isBy_5 ((60 * p + i : Nat) : Int) t σM a.1 a.2)
    (fun a => ∃ z : Nat, a.2 = z ∧ z ≤ 6 ∧ a.1 = if ly (dd σC p (gi σC p i)) t z = true then 1 else 0)
    (fun y => y.1 = if ly (dd σC p (gi σC p i)) t 6 = true then 1 else 0) (fun a => 6 - a.2.toNat) (by
      rintro ⟨k, a⟩ ⟨z, hz, hle, hl⟩
      dsimp only at hz hl ⊢
      subst hz
      by_cases c : z = 6
      · subst c
        refine Or.inl ⟨(k, ((6 : Nat) : Int)), ?_, hl⟩
        unfold bdX12_isBy_5
        simp (disch := omega) only [wr_eq, if_pos, if_true]
      · have ed := e_far hol hmr hp h8 hi (show z < 6 by omega)
        by_cases c0 : ly (dd σC p (gi σC p i)) t z = true
        · rw [if_pos c0] at hl
          subst hl
          by_cases c1 : wr (dd σC p (gi σC p i) z) ≤ t
          · refine Or.inr ⟨(1, (z : Int) + 1), ?_, ⟨z + 1, by simp, by omega, ?_⟩, by simp; omega⟩
            · unfold bdX12_isBy_5
              rw [ed, Option.bind_some, ht, if_neg (show ¬ t < wr (dd σC p (gi σC p i) z) by omega)]
              simp (disch := omega) only [wr_eq, if_neg, if_false]
            · dsimp only
              rw [ly_s, c0, decide_eq_true c1]
              rfl
          · refine Or.inr ⟨(0, (z : Int) + 1), ?_, ⟨z + 1, by simp, by omega, ?_⟩, by simp; omega⟩
            · unfold bdX12_isBy_5
              rw [ed, Option.bind_some, ht, if_pos (show t < wr (dd σC p (gi σC p i) z) by omega)]
              simp (disch := omega) only [wr_eq, if_neg, if_false]
            · dsimp only
              rw [ly_s, decide_eq_false c1, Bool.and_false, if_neg (by decide)]
        · rw [if_neg c0] at hl
          subst hl
          refine Or.inr ⟨(0, (z : Int) + 1), ?_, ⟨z + 1, by simp, by omega, ?_⟩, by simp; omega⟩
          · unfold bdX12_isBy_5
            simp (disch := omega) only [wr_eq, if_neg, if_pos, if_true, if_false]
          · dsimp only
            rw [ly_s, Bool.eq_false_iff.mpr c0, Bool.false_and, if_neg (by decide)]) pm_fuel (1, 0) ⟨0, rfl, by omega, rfl⟩ (pm_fl (by decide))
  rw [e1, Option.bind_some, hQ]
  exact pm_gt (by split <;> simp)
theorem e_gs (hmr : R_mrk σC σM) (hp : (p : Int) < σC 26 8) (h8 : σC 26 8 ≤ 80) (hg : g < 4) : fX2_groupSheets 15 p g σC = some (if g < 2 then σC 29 p else 30 - σC 29 p) ∧ 0 ≤ σC 29 p ∧ σC 29 p ≤ 30 := by
  obtain ⟨-, -, -, -, -, -, k7⟩ := hmr
  obtain ⟨a1, a2, -⟩ := k7 p hp
  refine ⟨?_, a1, a2⟩
  unfold fX2_groupSheets
  by_cases c : g < 2
  · simp (disch := omega) only [wr_eq, pm_gt, Int.toNat_natCast, if_neg, if_pos, if_false, if_true, Nat.reduceAdd]
  · simp (disch := omega) only [wr_eq, pm_gt, Int.toNat_natCast, if_neg, if_pos, if_false, if_true, Nat.reduceAdd]
/-- sixty sheets by their groups -/
theorem sm_60 (l : Nat → Int) (e : Nat) (f : Nat → Int) (P : Nat) (he : e ≤ 30) (hf : ∀ i, i < 60 → f (60 * P + i) = l (if i / 2 < e then i % 2 else i % 2 + 2)) : sm f (60 * (P + 1)) = sm f (60 * P) + (e * l 0 + e * l 1 + (30 - e : Int) * l 2 + (30 - e : Int) * l 3) := by
  have key : ∀ i : Nat, i ≤ 60 → sm f (60 * P + i) = sm f (60 * P) + (((min ((i + 1) / 2) e : Nat) : Int) * l 0 + ((min (i / 2) e : Nat) : Int) * l 1 + (((i + 1) / 2 - min ((i + 1) / 2) e : Nat) : Int) * l 2 + ((i / 2 - min (i / 2) e : Nat) : Int) * l 3) := by
    intro i
    induction i with
    | zero =>
      intro _
      have e0 : min ((0 + 1) / 2) e = 0 := by omega
      have e1 : min (0 / 2) e = 0 := by omega
      have e2 : (0 + 1) / 2 - min ((0 + 1) / 2) e = 0 := by omega
      have e3 : 0 / 2 - min (0 / 2) e = 0 := by omega
      first | rw [e2, e3, e0, e1] | rw [e2, e0, e1] | rw [e2, e0]
      simp
    | succ i ih =>
      intro hi
      have ih := ih (by omega)
      rw [show 60 * P + (i + 1) = (60 * P + i) + 1 by omega, sm_s, ih, hf i (by omega)]
      by_cases c : i / 2 < e
      · rw [if_pos c]
        rcases (show i % 2 = 0 ∨ i % 2 = 1 by omega) with q | q
        · rw [q]
          have e0 : min ((i + 1 + 1) / 2) e = min ((i + 1) / 2) e + 1 := by omega
          have e1 : min ((i + 1) / 2) e = min (i / 2) e := by omega
          have e2 : (i + 1 + 1) / 2 - min ((i + 1 + 1) / 2) e = (i + 1) / 2 - min ((i + 1) / 2) e := by omega
          have e3 : (i + 1) / 2 - min ((i + 1) / 2) e = i / 2 - min (i / 2) e := by omega
          rw [e2, e0, e3, e1]
          rw [Int.natCast_add, Int.add_mul]
          omega
        · rw [q]
          have e0 : min ((i + 1 + 1) / 2) e = min ((i + 1) / 2) e := by omega
          have e1 : min ((i + 1) / 2) e = min (i / 2) e + 1 := by omega
          have e2 : (i + 1 + 1) / 2 - min ((i + 1 + 1) / 2) e = (i + 1) / 2 - min ((i + 1) / 2) e := by omega
          have e3 : (i + 1) / 2 - min ((i + 1) / 2) e = i / 2 - min (i / 2) e := by omega
          rw [e2, e0, e3, e1]
          rw [Int.natCast_add, Int.add_mul, Int.add_mul]
          omega
      · rw [if_neg c]
        rcases (show i % 2 = 0 ∨ i % 2 = 1 by omega) with q | q
        · rw [q]
          have e0 : min ((i + 1 + 1) / 2) e = min ((i + 1) / 2) e := by omega
          have e1 : min ((i + 1) / 2) e = min (i / 2) e := by omega
          have e2 : (i + 1 + 1) / 2 - min ((i + 1 + 1) / 2) e = ((i + 1) / 2 - min ((i + 1) / 2) e) + 1 := by omega
          have e3 : (i + 1) / 2 - min ((i + 1) / 2) e = i / 2 - min (i / 2) e := by omega
          rw [e2, e0, e3, e1]
          rw [Int.natCast_add, Int.add_mul]
          show _ + l 2 = _
          omega
        · rw [q]
          have e0 : min ((i + 1 + 1) / 2) e = min ((i + 1) / 2) e := by omega
          have e1 : min ((i + 1) / 2) e = min (i / 2) e := by omega
          have e2 : (i + 1 + 1) / 2 - min ((i + 1 + 1) / 2) e = (i + 1) / 2 - min ((i + 1) / 2) e := by omega
          have e3 : (i + 1) / 2 - min ((i + 1) / 2) e = (i / 2 - min (i / 2) e) + 1 := by omega
          rw [e2, e0, e3, e1]
          rw [Int.natCast_add, Int.add_mul, Int.add_mul]
          show _ + l 3 = _
          omega
  have k60 := key 60 (Nat.le_refl _)
  rw [show 60 * (P + 1) = 60 * P + 60 by omega, k60]
  have e0 : min ((60 + 1) / 2) e = e := by omega
  have e1 : min (60 / 2) e = e := by omega
  have e2 : (((60 + 1) / 2 - min ((60 + 1) / 2) e : Nat) : Int) = 30 - e := by omega
  have e3 : ((60 / 2 - min (60 / 2) e : Nat) : Int) = 30 - e := by omega
  first | rw [e2, e3, e0, e1] | rw [e2, e0, e1] | rw [e2, e0]
set_option maxHeartbeats 4000000 in
theorem s_lies : sp_lies pm_R := by
  intro x1 σC σM h
  show pp_ pm_R _ _
  have w1 := wr_to x1
  generalize x1.toInt = t at w1 ⊢
  obtain ⟨hrf, hrg, hmo, hor, hol, hwe, ⟨t1, t2, t3, t4, t5, t6⟩, hmr, htr⟩ := id h
  obtain ⟨p1, p2, p3, p4, p5, -⟩ := id t4
  simp only [Nat.reduceAdd] at p1 p2 p3 p4 p5
  obtain ⟨N, hN⟩ := Int.eq_ofNat_of_zero_le (show 0 ≤ σC 26 8 by omega)
  have p1' : σM 25 (Int.toNat 752) = N := by rw [← hN]; exact p1.symm
  unfold fX11_lies fX12_lies
  rw [e_wrong w1 wr_0, Option.bind_some, w1, wr_eq (x := 99) (by decide) (by decide)]
  by_cases c1 : 0 ≤ t
  · rw [if_pos c1, if_pos c1]
    by_cases c2 : t ≤ 99
    · rw [if_pos c2, if_pos c2, if_pos wr_0]
      -- the reference counts sheet by sheet
      obtain ⟨F, hF⟩ : ∃ F : Nat → Int, F = fun s => if ly (dd σC (s / 60) (gi σC (s / 60) (s % 60))) t 6 = true then 1 else 0 := ⟨_, rfl⟩
      have hFb : ∀ n : Nat, 0 ≤ sm F n ∧ sm F n ≤ n := by
        intro n
        induction n with
        | zero => exact ⟨Int.le_refl _, Int.le_refl _⟩
        | succ n ih =>
          rw [sm_s]
          have : F n = 0 ∨ F n = 1 := by
            rw [hF]; dsimp only
            split
            · exact Or.inr rfl
            · exact Or.inl rfl
          omega
      obtain ⟨y', e2, hQ'⟩ := pm_it_ok (f := fun a : Int × Int => bdX12_lies_23 t σM a.1 a.2)
        (fun a => ∃ z : Nat, a.2 = z ∧ z ≤ 60 * N ∧ a.1 = sm F z) (fun y => y.1 = sm F (60 * N)) (fun a => 60 * N - a.2.toNat) (by
          rintro ⟨k, a⟩ ⟨z, hz, hle, hk⟩
          dsimp only at hz hk ⊢
          subst hz hk
          by_cases c : z = 60 * N
          · subst c
            refine Or.inl ⟨(sm F (60 * N), ((60 * N : Nat) : Int)), ?_, rfl⟩
            unfold bdX12_lies_23
            rw [p1']
            simp (disch := omega) only [wr_eq, if_pos, if_true]
          · have eb := e_isBy (p := z / 60) (i := z % 60) hol hmr w1 (by omega) (by omega) (by omega)
            rw [show 60 * (z / 60) + z % 60 = z by omega] at eb
            by_cases c3 : ly (dd σC (z / 60) (gi σC (z / 60) (z % 60))) t 6 = true
            · rw [if_pos c3] at eb
              refine Or.inr ⟨(sm F z + 1, (z : Int) + 1), ?_, ⟨z + 1, by simp, by omega, ?_⟩, by simp; omega⟩
              · unfold bdX12_lies_23
                rw [p1', eb]
                simp (disch := omega) only [wr_eq, if_neg, if_false, Option.bind_some]
              · dsimp only
                rw [sm_s, hF]; dsimp only; rw [if_pos c3]
            · rw [if_neg c3] at eb
              refine Or.inr ⟨(sm F z + 0, (z : Int) + 1), ?_, ⟨z + 1, by simp, by omega, ?_⟩, by simp; omega⟩
              · unfold bdX12_lies_23
                rw [p1', eb]
                simp (disch := omega) only [wr_eq, if_neg, if_pos, if_true, if_false, Option.bind_some]
              · dsimp only
                rw [sm_s, hF]; dsimp only; rw [if_neg c3]) pm_fuel (0, 0) ⟨0, rfl, by omega, rfl⟩ (pm_fl (by show 60 * N - Int.toNat 0 < 100000; omega))
      -- the class counts by groups
      obtain ⟨y, e1, hQ⟩ := pm_it_ok (f := fun a : Int × Int => bdX4_countNear_4 t σC a.1 a.2)
        (fun a => ∃ z : Nat, a.2 = z ∧ z ≤ N ∧ a.1 = sm F (60 * z)) (fun y => y.1 = sm F (60 * N)) (fun a => N - a.2.toNat) (by
          rintro ⟨k, a⟩ ⟨z, hz, hle, hk⟩
          dsimp only at hz hk ⊢
          subst hz hk
          by_cases c : z = N
          · subst c
            refine Or.inl ⟨(sm F (60 * z), (z : Int)), ?_, rfl⟩
            unfold bdX4_countNear_4
            rw [hN]
            simp (disch := omega) only [wr_eq, if_pos, if_true]
          · obtain ⟨L, hL⟩ : ∃ L : Nat → Int, L = fun g => if ly (dd σC z g) t 6 = true then 1 else 0 := ⟨_, rfl⟩
            obtain ⟨-, g1, g2⟩ := e_gs (g := 0) hmr (p := z) (by omega) (by omega) (by decide)
            obtain ⟨e, he⟩ := Int.eq_ofNat_of_zero_le g1
            have s60 := sm_60 L e F z (by omega) (fun i hi => by
              rw [hF, hL]; dsimp only
              rw [show (60 * z + i) / 60 = z by omega, show (60 * z + i) % 60 = i by omega]
              have eg : gi σC z i = if i / 2 < e then i % 2 else i % 2 + 2 := by
                unfold gi
                rw [he]
                by_cases q : i / 2 < e
                · rw [if_pos q, if_pos (by omega)]
                · rw [if_neg q, if_neg (by omega)]
              rw [eg])
            obtain ⟨y, e1, hQ⟩ := pm_it_ok (f := fun a : Int × Int => bdX4_countNear_18 t z σC a.1 a.2)
              (fun a => ∃ x : Nat, a.2 = x ∧ x ≤ 4 ∧ a.1 = sm F (60 * z) + sm (fun g => (if g < 2 then (e : Int) else 30 - e) * L g) x) (fun y => y.1 = sm F (60 * z) + sm (fun g => (if g < 2 then (e : Int) else 30 - e) * L g) 4) (fun a => 4 - a.2.toNat) (by
                rintro ⟨k, a⟩ ⟨x, hx, hle, hk⟩
                dsimp only at hx hk ⊢
                subst hx
                by_cases c : x = 4
                · subst c
                  refine Or.inl ⟨(k, ((4 : Nat) : Int)), ?_, hk⟩
                  unfold bdX4_countNear_18
                  simp (disch := omega) only [wr_eq, if_pos, if_true]
                · have el := e_lies (p := z) (g := x) hol w1 (by omega) (by omega)
                  obtain ⟨eg, -⟩ := e_gs (g := x) hmr (p := z) (by omega) (by omega) (by omega)
                  rw [he] at eg
                  by_cases c3 : ly (dd σC z x) t 6 = true
                  · rw [if_pos c3] at el
                    refine Or.inr ⟨(k + (if x < 2 then (e : Int) else 30 - e), (x : Int) + 1), ?_, ⟨x + 1, by simp, by omega, ?_⟩, by simp; omega⟩
                    · unfold bdX4_countNear_18
                      rw [el, eg]
                      simp (disch := omega) only [wr_eq, if_neg, if_false, Option.bind_some]
                    · dsimp only
                      rw [sm_s, hk, hL]; dsimp only; rw [if_pos c3]; omega
                  · rw [if_neg c3] at el
                    refine Or.inr ⟨(k, (x : Int) + 1), ?_, ⟨x + 1, by simp, by omega, ?_⟩, by simp; omega⟩
                    · unfold bdX4_countNear_18
                      rw [el]
                      simp (disch := omega) only [wr_eq, if_neg, if_pos, if_true, if_false, Option.bind_some]
                    · dsimp only
                      rw [sm_s, hk, hL]; dsimp only; rw [if_neg c3]; omega) pm_fuel (sm F (60 * z), 0) ⟨0, rfl, by omega, by simp [sm]⟩ (pm_fl (show 4 - Int.toNat 0 < 100000 by decide))
            refine Or.inr ⟨(y.1, (z : Int) + 1), ?_, ⟨z + 1, by simp, by omega, ?_⟩, by simp; omega⟩
            · unfold bdX4_countNear_4
              rw [hN, e1]
              simp (disch := omega) only [wr_eq, if_neg, if_false, Option.bind_some]
            · dsimp only
              rw [hQ, s60]
              have e4 : sm (fun g => (if g < 2 then (e : Int) else 30 - e) * L g) 4 = 0 + (e : Int) * L 0 + (e : Int) * L 1 + (30 - e) * L 2 + (30 - e) * L 3 := rfl
              rw [e4]
              omega) pm_fuel (0, 0) ⟨0, rfl, by omega, rfl⟩ (pm_fl (by show N - Int.toNat 0 < 100000; omega))
      unfold fX4_countNear
      rw [e1, e2, Option.bind_some, Option.bind_some, Option.bind_some]
      exact pp_ret (by rw [hQ, hQ']) h
    · rw [if_neg c2, if_neg c2, if_neg (by decide)]
      exact pp_ref h (by decide)
  · rw [if_neg c1, if_neg c1, if_neg (by decide)]
    exact pp_ref h (by decide)
end OS
