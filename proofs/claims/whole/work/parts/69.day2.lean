set_option maxHeartbeats 4000000 in
theorem e_recM {σM : pm_M} {t : Nat → Int} {x d : Nat} (hx : x < 2) (hd : d < 101) (h : ∀ i, i < 101 → σM 2 (101 * x + i) = t i ∧ -1 ≤ t i ∧ t i ≤ 60) : fX12_reckoned d x σM = some (w_rk (if x = 0 then 20 else 4) t d) := by
  have hB := w_bef_b (t := t) (hi := 60) (fun d hd => (h d hd).2)
  have hA := w_aft_b (t := t) (hi := 60) (fun d hd => (h d hd).2)
  obtain ⟨td, td1, td2⟩ := h d hd
  have ix : ∀ z : Nat, Int.toNat (101 * (x : Int) + z) = 101 * x + z := fun z => by omega
  unfold fX12_reckoned
  by_cases c0 : t d = -1
  · obtain ⟨y, e1, hQ⟩ := pm_it_ok (f := fun a : Int × Int => bdX12_reckoned_50 d x (-1) σM a.1 a.2)
      (fun a => ∃ z : Nat, a.2 = z ∧ z ≤ d ∧ a.1 = (if z = 0 then -1 else w_bef t (z - 1)))
      (fun y => y.1 = w_bef t d) (fun a => d - a.2.toNat) (by
        rintro ⟨k, z0⟩ ⟨z, hz, hle, hk⟩
        dsimp only at hz hk ⊢
        subst hz
        by_cases c : z = d
        · subst c
          refine Or.inl ⟨(k, (z : Int)), ?_, ?_⟩
          · unfold bdX12_reckoned_50
            simp (disch := omega) only [wr_eq, if_pos, if_true]
          · dsimp only
            rw [hk]
            cases z with
            | zero => rw [if_pos rfl]; exact c0.symm
            | succ z => rw [if_neg (by omega), w_bef_s, if_neg (fun q => q c0)]; rfl
        · obtain ⟨tz, tz1, tz2⟩ := h z (by omega)
          by_cases c1 : t z = -1
          · refine Or.inr ⟨(k, (z : Int) + 1), ?_, ⟨z + 1, by simp, by omega, ?_⟩, by simp; omega⟩
            · unfold bdX12_reckoned_50
              simp (disch := omega) only [wr_eq, if_neg, if_pos, if_true, if_false, pm_gt, ix, tz]
            · dsimp only
              rw [hk, if_neg (show ¬ z + 1 = 0 by omega)]
              cases z with
              | zero => rw [if_pos rfl]; exact c1.symm
              | succ z => rw [if_neg (by omega)]; show _ = w_bef t (z + 1); rw [w_bef_s, if_neg (fun q => q c1)]; rfl
          · refine Or.inr ⟨(t z, (z : Int) + 1), ?_, ⟨z + 1, by simp, by omega, ?_⟩, by simp; omega⟩
            · unfold bdX12_reckoned_50
              simp (disch := omega) only [wr_eq, if_neg, if_pos, if_true, if_false, pm_gt, ix, tz]
            · dsimp only
              rw [if_neg (by omega)]
              exact (w_bef_t c1).symm) pm_fuel (-1, 0) ⟨0, rfl, by omega, by rw [if_pos rfl]⟩ (pm_fl (by show d - Int.toNat 0 < 100000; omega))
    obtain ⟨y', e2, hQ'⟩ := pm_it_ok (f := fun a : Int × Int => bdX12_reckoned_94 d x y.1 σM a.1 a.2)
      (fun a => ∃ z : Nat, a.2 = z ∧ d ≤ z ∧ z ≤ 100 ∧ a.1 = (if z = 100 then -1 else w_aft t (100 - (z + 1))))
      (fun y => y.1 = w_aft t (100 - d)) (fun a => a.2.toNat) (by
        rintro ⟨k, z0⟩ ⟨z, hz, hle, hle2, hk⟩
        dsimp only at hz hk ⊢
        subst hz
        by_cases c : z = d
        · subst c
          refine Or.inl ⟨(k, (z : Int)), ?_, ?_⟩
          · unfold bdX12_reckoned_94
            simp (disch := omega) only [wr_eq, if_pos, if_true]
          · dsimp only
            rw [hk]
            by_cases q : z = 100
            · subst q; rw [if_pos rfl]; exact c0.symm
            · obtain ⟨j, hj⟩ : ∃ j, 100 - z = j + 1 := ⟨99 - z, by omega⟩
              rw [if_neg q, hj, w_aft_s, show 99 - j = z by omega, if_neg (fun q => q c0), show 100 - (z + 1) = j by omega]
        · obtain ⟨x1, rfl⟩ : ∃ x, z = x + 1 := ⟨z - 1, by omega⟩
          obtain ⟨tz, tz1, tz2⟩ := h (x1 + 1) (by omega)
          have ec : ((x1 + 1 : Nat) : Int) + (-1) = x1 := by omega
          have ix2 := ix (x1 + 1)
          by_cases c1 : t (x1 + 1) = -1
          · refine Or.inr ⟨(k, (x1 : Int)), ?_, ⟨x1, rfl, by omega, by omega, ?_⟩, by simp⟩
            · unfold bdX12_reckoned_94
              simp (disch := omega) only [wr_eq, if_neg, if_pos, if_true, if_false, pm_gt, ix2, tz, ec]
            · dsimp only
              rw [hk, if_neg (show ¬ x1 = 100 by omega)]
              by_cases q : x1 + 1 = 100
              · rw [if_pos q, show 100 - (x1 + 1) = 0 by omega]
                show _ = t 100
                rw [← q, c1]
              · obtain ⟨j, hj⟩ : ∃ j, 100 - (x1 + 1) = j + 1 := ⟨98 - x1, by omega⟩
                rw [if_neg q, hj, w_aft_s, show 99 - j = x1 + 1 by omega, if_neg (fun q => q c1), show 100 - (x1 + 1 + 1) = j by omega]
          · refine Or.inr ⟨(t (x1 + 1), (x1 : Int)), ?_, ⟨x1, rfl, by omega, by omega, ?_⟩, by simp⟩
            · unfold bdX12_reckoned_94
              simp (disch := omega) only [wr_eq, if_neg, if_pos, if_true, if_false, pm_gt, ix2, tz, ec]
            · dsimp only
              rw [if_neg (show ¬ x1 = 100 by omega)]
              exact (w_aft_t (by omega) c1).symm) pm_fuel (-1, 100) ⟨100, rfl, by omega, by omega, by rw [if_pos rfl]⟩ (pm_fl (by decide))
    have bx := hB d hd
    have ax := hA (100 - d) (by omega)
    rw [hQ] at e2
    unfold jnX12_reckoned_155 w_rk
    have hbind : ∀ {γ : Type} {F : Int × Int → Option γ}, Option.bind (some y) F = F y := fun {γ F} => rfl
    simp (disch := omega) only [wr_eq, if_neg, if_pos, if_true, if_false, pm_gt, ix, td, e1, Option.bind_some, hQ, e2, hQ']
    by_cases c1 : w_bef t d = -1
    · by_cases c2 : w_aft t (100 - d) = -1
      · simp (disch := omega) only [if_neg, if_pos, if_true, if_false]
        by_cases c3 : x = 0
        · simp (disch := omega) only [if_pos]
        · simp (disch := omega) only [if_neg]
      · simp (disch := omega) only [if_neg, if_pos, if_true, if_false]
    · by_cases c2 : w_aft t (100 - d) = -1
      · simp (disch := omega) only [if_neg, if_pos, if_true, if_false]
      · simp (disch := omega) only [if_neg, if_pos, if_true, if_false]
  · simp (disch := omega) only [wr_eq, if_neg, pm_gt, ix, td]
    rw [w_rk_t hd (by omega)]
/-- a day of a row, as reckoned, on both sides -/
theorem e_on {σC σM : pm_M} (hw : R_wea σC σM) {d x : Nat} (hd : d < 101) (hx : x < 3) : fX9_on d x σC = some (σC (7 + x) d) ∧ fX12_reckoned d x σM = some (σC (7 + x) d) := by
  constructor
  · unfold fX9_on
    simp (disch := omega) only [wr_eq, pm_gt, Int.toNat_natCast]
  · obtain ⟨-, -, -, h7, h8, h9⟩ := hw d hd
    rcases (show x = 0 ∨ x = 1 ∨ x = 2 by omega) with rfl | rfl | rfl
    · rw [e_recM (t := σC 3) (by decide) hd (fun i hi => ⟨by rw [Nat.mul_zero, Nat.zero_add]; exact (hw i hi).1.1.symm, (hw i hi).1.2⟩), if_pos rfl]
      exact congrArg some h7.symm
    · rw [e_recM (t := σC 4) (by decide) hd (fun i hi => ⟨(hw i hi).2.1.1.symm, (hw i hi).2.1.2.1, by have := (hw i hi).2.1.2.2; omega⟩), if_neg (by decide)]
      exact congrArg some h8.symm
    · unfold fX12_reckoned
      have i1 : Int.toNat (202 + (d : Int)) = 202 + d := by omega
      simp (disch := omega) only [wr_eq, if_pos, pm_gt, i1]
      rw [← (hw d hd).2.2.1.1]
      exact congrArg some h9.symm
theorem e_on_b {σC σM : pm_M} (hw : R_wea σC σM) {d x : Nat} (hd : d < 101) (hx : x < 3) : 0 ≤ σC (7 + x) d ∧ σC (7 + x) d ≤ 60 ∧ (x = 1 → σC (7 + x) d ≤ 9) := by
  have h0 := w_rk_b (t := σC 3) (hi := 60) (n := 20) (fun d hd => (hw d hd).1.2) (by decide) hd
  have h1 := w_rk_b (t := σC 4) (hi := 9) (n := 4) (fun d hd => (hw d hd).2.1.2) (by decide) hd
  obtain ⟨-, -, h5, h7, h8, h9⟩ := hw d hd
  rcases (show x = 0 ∨ x = 1 ∨ x = 2 by omega) with rfl | rfl | rfl
  · show 0 ≤ σC 7 d ∧ σC 7 d ≤ 60 ∧ (0 = 1 → _)
    rw [h7]
    exact ⟨h0.1, h0.2, fun q => by omega⟩
  · show 0 ≤ σC 8 d ∧ σC 8 d ≤ 60 ∧ (1 = 1 → σC 8 d ≤ 9)
    rw [h8]
    exact ⟨h1.1, by omega, fun _ => h1.2⟩
  · show 0 ≤ σC 9 d ∧ σC 9 d ≤ 60 ∧ (2 = 1 → _)
    rw [h9]
    exact ⟨by omega, by omega, fun q => by omega⟩
theorem s_dayOf : sp_dayOf pm_R := by
  intro x1 x2 σC σM h
  show pp_ pm_R _ _
  have w1 := wr_to x1
  have w2 := wr_to x2
  generalize x1.toInt = a at w1 ⊢
  generalize x2.toInt = r at w2 ⊢
  unfold fX11_dayOf fX12_dayOf
  rw [e_num w1 (wr_eq (by decide) (by decide)), e_in w1 (wr_eq (by decide) (by decide)), e_num w2 (wr_eq (by decide) (by decide)), e_in w2 (wr_eq (by decide) (by decide))]
  refine pp_b (fun c1 => ?_) (fun _ => pp_ref h (by decide))
  refine pp_b (fun c2 => ?_) (fun _ => pp_ref h (by decide))
  obtain ⟨d, rfl⟩ := Int.eq_ofNat_of_zero_le c1.1
  obtain ⟨x, rfl⟩ := Int.eq_ofNat_of_zero_le c2.1
  obtain ⟨e1, e2⟩ := e_on h.2.2.2.2.2.1 (d := d) (x := x) (by omega) (by omega)
  rw [e1, e2, Option.bind_some, Option.bind_some]
  exact pp_ret rfl h
theorem e_tell {σC : pm_M} {d r : Nat} (hd : d < 101) (hr : r < 3) {v : Int} (hb : ∀ i, i < 101 → -1 ≤ (pm_up σC (3 + r) d v) (3 + r) i ∧ (pm_up σC (3 + r) d v) (3 + r) i ≤ 60) : ∃ σ', fX9_tell d r v σC = some σ' ∧ (∀ c, c ≠ 7 + r → σ' c = pm_up σC (3 + r) d v c) ∧ ∀ i, i < 101 → σ' (7 + r) i = w_rk (([20, 4, 0] : List Int).getD r 0) (pm_up σC (3 + r) d v (3 + r)) i := by
  obtain ⟨σ', e1, e2, e3⟩ := e_reckon (r0 := 3 + r) (r1 := 7 + r) (n := ([20, 4, 0] : List Int).getD r 0) (hi := 60) (by omega) (by decide) hb
  refine ⟨σ', ?_, e2, e3⟩
  unfold fX9_tell
  simp (disch := omega) only [wr_eq, pm_gt, Int.toNat_natCast, e1, Option.bind_some]
set_option maxHeartbeats 4000000 in
/-- a day told, on both sides -/
theorem p_day {σC σM : pm_M} (h : pm_R σC σM) {d r : Nat} (hd : d < 101) (hr : r < 3) {v : Int} (hv : (r = 0 ∧ -1 ≤ v ∧ v ≤ 60) ∨ (r = 1 ∧ -1 ≤ v ∧ v ≤ 9) ∨ (r = 2 ∧ 0 ≤ v ∧ v ≤ 1)) : ∃ σ', fX9_tell d r v σC = some σ' ∧ pm_R σ' (pm_up σM 2 (101 * r + d) v) := by
  obtain ⟨hrf, hrg, hmo, hor, hol, hwe, ht, hmr, htr⟩ := id h
  have hB : ∀ i, i < 101 → -1 ≤ (pm_up σC (3 + r) d v) (3 + r) i ∧ (pm_up σC (3 + r) d v) (3 + r) i ≤ 60 := by
    intro i hi
    obtain ⟨h3, h4, h5, -⟩ := hwe i hi
    by_cases e : i = d
    · rw [pu_eq ⟨rfl, e⟩]; omega
    · rw [pu_ne (Or.inr e)]
      rcases hv with ⟨rfl, -⟩ | ⟨rfl, -⟩ | ⟨rfl, -⟩
      · exact h3.2
      · have h4' : -1 ≤ σC 4 i ∧ σC 4 i ≤ 9 := h4.2
        show -1 ≤ σC 4 i ∧ σC 4 i ≤ 60
        omega
      · have h5' : 0 ≤ σC 5 i ∧ σC 5 i ≤ 1 := h5.2
        show -1 ≤ σC 5 i ∧ σC 5 i ≤ 60
        omega
  obtain ⟨σ', e1, e2, e3⟩ := e_tell (σC := σC) hd hr hB
  refine ⟨σ', e1, ?_⟩
  have e4 := pm_rw_of e2
  generalize σ' (7 + r) = W at e3 e4
  subst e4
  rcases hv with ⟨rfl, v1, v2⟩ | ⟨rfl, v1, v2⟩ | ⟨rfl, v1, v2⟩
  · refine ⟨hrf, hrg, hmo, hor, hol, fun i hi => ?_, ht, hmr, htr⟩
    obtain ⟨h3, h4, h5, h7, h8, h9⟩ := hwe i hi
    have e3' : W i = w_rk 20 (pm_up σC 3 d v 3) i := e3 i hi
    show (pm_up σC 3 d v 3 i = pm_up σM 2 (101 * 0 + d) v 2 i ∧ -1 ≤ pm_up σC 3 d v 3 i ∧ pm_up σC 3 d v 3 i ≤ 60) ∧ (σC 4 i = pm_up σM 2 (101 * 0 + d) v 2 (101 + i) ∧ -1 ≤ σC 4 i ∧ σC 4 i ≤ 9) ∧ (σC 5 i = pm_up σM 2 (101 * 0 + d) v 2 (202 + i) ∧ 0 ≤ σC 5 i ∧ σC 5 i ≤ 1) ∧ W i = w_rk 20 (pm_up σC 3 d v 3) i ∧ σC 8 i = w_rk 4 (σC 4) i ∧ σC 9 i = σC 5 i
    rw [pu_ne (show 2 ≠ 2 ∨ 101 + i ≠ 101 * 0 + d by omega), pu_ne (show 2 ≠ 2 ∨ 202 + i ≠ 101 * 0 + d by omega)]
    refine ⟨?_, h4, h5, e3', h8, h9⟩
    by_cases e : i = d
    · rw [pu_eq ⟨rfl, e⟩, pu_eq ⟨rfl, by omega⟩]; exact ⟨rfl, v1, v2⟩
    · rw [pu_ne (Or.inr e), pu_ne (by omega)]; exact h3
  · refine ⟨hrf, hrg, hmo, hor, hol, fun i hi => ?_, ht, hmr, htr⟩
    obtain ⟨h3, h4, h5, h7, h8, h9⟩ := hwe i hi
    have e3' : W i = w_rk 4 (pm_up σC 4 d v 4) i := e3 i hi
    show (σC 3 i = pm_up σM 2 (101 * 1 + d) v 2 i ∧ -1 ≤ σC 3 i ∧ σC 3 i ≤ 60) ∧ (pm_up σC 4 d v 4 i = pm_up σM 2 (101 * 1 + d) v 2 (101 + i) ∧ -1 ≤ pm_up σC 4 d v 4 i ∧ pm_up σC 4 d v 4 i ≤ 9) ∧ (σC 5 i = pm_up σM 2 (101 * 1 + d) v 2 (202 + i) ∧ 0 ≤ σC 5 i ∧ σC 5 i ≤ 1) ∧ σC 7 i = w_rk 20 (σC 3) i ∧ W i = w_rk 4 (pm_up σC 4 d v 4) i ∧ σC 9 i = σC 5 i
    rw [pu_ne (show 2 ≠ 2 ∨ i ≠ 101 * 1 + d by omega), pu_ne (show 2 ≠ 2 ∨ 202 + i ≠ 101 * 1 + d by omega)]
    refine ⟨h3, ?_, h5, h7, e3', h9⟩
    by_cases e : i = d
    · rw [pu_eq ⟨rfl, e⟩, pu_eq ⟨rfl, by omega⟩]; exact ⟨rfl, v1, v2⟩
    · rw [pu_ne (Or.inr e), pu_ne (by omega)]; exact h4
  · refine ⟨hrf, hrg, hmo, hor, hol, fun i hi => ?_, ht, hmr, htr⟩
    obtain ⟨h3, h4, h5, h7, h8, h9⟩ := hwe i hi
    have e3' : W i = w_rk 0 (pm_up σC 5 d v 5) i := e3 i hi
    have hp : 0 ≤ pm_up σC 5 d v 5 i ∧ pm_up σC 5 d v 5 i ≤ 1 := by
      by_cases e : i = d
      · rw [pu_eq ⟨rfl, e⟩]; exact ⟨v1, v2⟩
      · rw [pu_ne (Or.inr e)]; exact h5.2
    rw [w_rk_t hi hp.1] at e3'
    show (σC 3 i = pm_up σM 2 (101 * 2 + d) v 2 i ∧ -1 ≤ σC 3 i ∧ σC 3 i ≤ 60) ∧ (σC 4 i = pm_up σM 2 (101 * 2 + d) v 2 (101 + i) ∧ -1 ≤ σC 4 i ∧ σC 4 i ≤ 9) ∧ (pm_up σC 5 d v 5 i = pm_up σM 2 (101 * 2 + d) v 2 (202 + i) ∧ 0 ≤ pm_up σC 5 d v 5 i ∧ pm_up σC 5 d v 5 i ≤ 1) ∧ σC 7 i = w_rk 20 (σC 3) i ∧ σC 8 i = w_rk 4 (σC 4) i ∧ W i = pm_up σC 5 d v 5 i
    rw [pu_ne (show 2 ≠ 2 ∨ i ≠ 101 * 2 + d by omega), pu_ne (show 2 ≠ 2 ∨ 101 + i ≠ 101 * 2 + d by omega)]
    refine ⟨h3, h4, ⟨?_, hp⟩, h7, h8, e3'⟩
    by_cases e : i = d
    · rw [pu_eq ⟨rfl, e⟩, pu_eq ⟨rfl, by omega⟩]
    · rw [pu_ne (Or.inr e), pu_ne (by omega)]; exact h5.1
set_option maxHeartbeats 4000000 in
theorem s_day : sp_day pm_R := by
  intro x1 x2 x3 σC σM h
  show pp_ pm_R _ _
  have w1 := wr_to x1
  have w2 := wr_to x2
  have w3 := wr_to x3
  generalize x1.toInt = a at w1 ⊢
  generalize x2.toInt = r at w2 ⊢
  generalize x3.toInt = v at w3 ⊢
  have hwe := h.2.2.2.2.2.1
  by_cases c1 : 0 ≤ a ∧ a < 101
  · obtain ⟨d, rfl⟩ := Int.eq_ofNat_of_zero_le c1.1
    by_cases c2 : 0 ≤ r ∧ r < 3
    · have hr3 : r = 0 ∨ r = 1 ∨ r = 2 := by omega
      unfold fX11_day fX12_day jnX12_day_37 jnX12_day_57 jnX12_day_60
      have L0 : ([-1, -1, 0] : List Int).getD 0 0 = -1 := rfl
      have L1 : ([-1, -1, 0] : List Int).getD 1 0 = -1 := rfl
      have L2 : ([-1, -1, 0] : List Int).getD 2 0 = 0 := rfl
      have G0 : ([60, 9, 1] : List Int).getD 0 0 = 60 := rfl
      have G1 : ([60, 9, 1] : List Int).getD 1 0 = 9 := rfl
      have G2 : ([60, 9, 1] : List Int).getD 2 0 = 1 := rfl
      have wm : wr (-1) = -1 := wr_eq (by decide) (by decide)
      have j0 : Int.toNat (101 * 0 + (d : Int)) = 101 * 0 + d := by omega
      have j1 : Int.toNat (101 * 1 + (d : Int)) = 101 * 1 + d := by omega
      have j2 : Int.toNat (101 * 2 + (d : Int)) = 101 * 2 + d := by omega
      rcases hr3 with rfl | rfl | rfl
      · obtain ⟨o1, o2⟩ := e_on hwe (d := d) (x := 0) (by omega) (by omega)
        have o1' : fX9_on d 0 σC = some (σC (7 + 0) d) := o1
        have o2' : fX12_reckoned d 0 σM = some (σC (7 + 0) d) := o2
        by_cases c3 : -1 ≤ v
        · by_cases c4 : v ≤ 60
          · obtain ⟨σ', t1, t2⟩ := p_day h (d := d) (r := 0) (v := v) (by omega) (by omega) (by omega)
            have t1' : fX9_tell d 0 v σC = some σ' := t1
            simp (disch := omega) only [e_num w1 (wr_eq (x := 101) (by decide) (by decide)), e_in w1 (wr_eq (x := 101) (by decide) (by decide)), e_num wr_0 (wr_eq (x := 3) (by decide) (by decide)), e_in wr_0 (wr_eq (x := 3) (by decide) (by decide)), Option.bind_some, wr_eq, if_pos, if_neg, if_true, if_false, pm_gt, Int.reduceToNat, L0, G0, e_wrong w3 wm, o1', o2', t1', j0]
            exact pp_ret rfl t2
          · simp (disch := omega) only [e_num w1 (wr_eq (x := 101) (by decide) (by decide)), e_in w1 (wr_eq (x := 101) (by decide) (by decide)), e_num wr_0 (wr_eq (x := 3) (by decide) (by decide)), e_in wr_0 (wr_eq (x := 3) (by decide) (by decide)), Option.bind_some, wr_eq, if_pos, if_neg, if_true, if_false, pm_gt, Int.reduceToNat, L0, G0, e_wrong w3 wm]
            exact pp_ref h (by decide)
        · simp (disch := omega) only [e_num w1 (wr_eq (x := 101) (by decide) (by decide)), e_in w1 (wr_eq (x := 101) (by decide) (by decide)), e_num wr_0 (wr_eq (x := 3) (by decide) (by decide)), e_in wr_0 (wr_eq (x := 3) (by decide) (by decide)), Option.bind_some, wr_eq, if_pos, if_neg, if_true, if_false, pm_gt, Int.reduceToNat, L0, G0, e_wrong w3 wm]
          exact pp_ref h (by decide)
      · obtain ⟨o1, o2⟩ := e_on hwe (d := d) (x := 1) (by omega) (by omega)
        have o1' : fX9_on d 1 σC = some (σC (7 + 1) d) := o1
        have o2' : fX12_reckoned d 1 σM = some (σC (7 + 1) d) := o2
        by_cases c3 : -1 ≤ v
        · by_cases c4 : v ≤ 9
          · obtain ⟨σ', t1, t2⟩ := p_day h (d := d) (r := 1) (v := v) (by omega) (by omega) (by omega)
            have t1' : fX9_tell d 1 v σC = some σ' := t1
            simp (disch := omega) only [e_num w1 (wr_eq (x := 101) (by decide) (by decide)), e_in w1 (wr_eq (x := 101) (by decide) (by decide)), e_num wr_1 (wr_eq (x := 3) (by decide) (by decide)), e_in wr_1 (wr_eq (x := 3) (by decide) (by decide)), Option.bind_some, wr_eq, if_pos, if_neg, if_true, if_false, pm_gt, Int.reduceToNat, L1, G1, e_wrong w3 wm, o1', o2', t1', j1]
            exact pp_ret rfl t2
          · simp (disch := omega) only [e_num w1 (wr_eq (x := 101) (by decide) (by decide)), e_in w1 (wr_eq (x := 101) (by decide) (by decide)), e_num wr_1 (wr_eq (x := 3) (by decide) (by decide)), e_in wr_1 (wr_eq (x := 3) (by decide) (by decide)), Option.bind_some, wr_eq, if_pos, if_neg, if_true, if_false, pm_gt, Int.reduceToNat, L1, G1, e_wrong w3 wm]
            exact pp_ref h (by decide)
        · simp (disch := omega) only [e_num w1 (wr_eq (x := 101) (by decide) (by decide)), e_in w1 (wr_eq (x := 101) (by decide) (by decide)), e_num wr_1 (wr_eq (x := 3) (by decide) (by decide)), e_in wr_1 (wr_eq (x := 3) (by decide) (by decide)), Option.bind_some, wr_eq, if_pos, if_neg, if_true, if_false, pm_gt, Int.reduceToNat, L1, G1, e_wrong w3 wm]
          exact pp_ref h (by decide)
      · obtain ⟨o1, o2⟩ := e_on hwe (d := d) (x := 2) (by omega) (by omega)
        have o1' : fX9_on d 2 σC = some (σC (7 + 2) d) := o1
        have o2' : fX12_reckoned d 2 σM = some (σC (7 + 2) d) := o2
        by_cases c3 : 0 ≤ v
        · by_cases c4 : v ≤ 1
          · obtain ⟨σ', t1, t2⟩ := p_day h (d := d) (r := 2) (v := v) (by omega) (by omega) (by omega)
            have t1' : fX9_tell d 2 v σC = some σ' := t1
            simp (disch := omega) only [e_num w1 (wr_eq (x := 101) (by decide) (by decide)), e_in w1 (wr_eq (x := 101) (by decide) (by decide)), e_num (wr_eq (x := 2) (by decide) (by decide)) (wr_eq (x := 3) (by decide) (by decide)), e_in (wr_eq (x := 2) (by decide) (by decide)) (wr_eq (x := 3) (by decide) (by decide)), Option.bind_some, wr_eq, if_pos, if_neg, if_true, if_false, pm_gt, Int.reduceToNat, L2, G2, e_wrong w3 wr_0, o1', o2', t1', j2]
            exact pp_ret rfl t2
          · simp (disch := omega) only [e_num w1 (wr_eq (x := 101) (by decide) (by decide)), e_in w1 (wr_eq (x := 101) (by decide) (by decide)), e_num (wr_eq (x := 2) (by decide) (by decide)) (wr_eq (x := 3) (by decide) (by decide)), e_in (wr_eq (x := 2) (by decide) (by decide)) (wr_eq (x := 3) (by decide) (by decide)), Option.bind_some, wr_eq, if_pos, if_neg, if_true, if_false, pm_gt, Int.reduceToNat, L2, G2, e_wrong w3 wr_0]
            exact pp_ref h (by decide)
        · simp (disch := omega) only [e_num w1 (wr_eq (x := 101) (by decide) (by decide)), e_in w1 (wr_eq (x := 101) (by decide) (by decide)), e_num (wr_eq (x := 2) (by decide) (by decide)) (wr_eq (x := 3) (by decide) (by decide)), e_in (wr_eq (x := 2) (by decide) (by decide)) (wr_eq (x := 3) (by decide) (by decide)), Option.bind_some, wr_eq, if_pos, if_neg, if_true, if_false, pm_gt, Int.reduceToNat, L2, G2, e_wrong w3 wr_0]
          exact pp_ref h (by decide)
    · unfold fX11_day fX12_day jnX12_day_60
      simp (disch := omega) only [e_num w1 (wr_eq (x := 101) (by decide) (by decide)), e_in w1 (wr_eq (x := 101) (by decide) (by decide)), e_num w2 (wr_eq (x := 3) (by decide) (by decide)), e_in w2 (wr_eq (x := 3) (by decide) (by decide)), Option.bind_some, wr_eq, if_pos, if_neg, if_true, if_false]
      exact pp_ref h (by decide)
  · unfold fX11_day fX12_day jnX12_day_60
    simp (disch := omega) only [e_num w1 (wr_eq (x := 101) (by decide) (by decide)), e_in w1 (wr_eq (x := 101) (by decide) (by decide)), Option.bind_some, wr_eq, if_pos, if_neg, if_true, if_false]
    exact pp_ref h (by decide)
