/-! ===== span ===== -/
def hit (σ : pm_M) (t : Int) (m s : Nat) : Prop := 2 * σ 30 (s / 60) + ((s % 2 : Nat) : Int) = m ∧ ly (dd σ (s / 60) (gi σ (s / 60) (s % 60))) t 6 = true
def hitp (σ : pm_M) (t : Int) (m p : Nat) : Prop := ∃ i, i < 60 ∧ hit σ t m (60 * p + i)
def spn (σ : pm_M) (t : Int) (m : Nat) (last : Int) (N : Nat) (best : Int) : Prop := (best = -9 ∧ ∀ p, p < N → ¬ hitp σ t m p) ∨ (∃ p, p < N ∧ hitp σ t m p ∧ best = σ 32 p ∧ (last = 0 → ∀ p', p' < p → ¬ hitp σ t m p') ∧ (last ≠ 0 → ∀ p', p < p' → p' < N → ¬ hitp σ t m p'))
theorem spn_u {σ : pm_M} {t : Int} {m : Nat} {last : Int} {N : Nat} {x y : Int} (h : spn σ t m last N x) (h' : spn σ t m last N y) : x = y := by
  rcases h with ⟨a1, a2⟩ | ⟨p, a1, a2, a3, a4, a5⟩
  · rcases h' with ⟨b1, b2⟩ | ⟨q, b1, b2, b3, b4, b5⟩
    · omega
    · exact absurd b2 (a2 q b1)
  · rcases h' with ⟨b1, b2⟩ | ⟨q, b1, b2, b3, b4, b5⟩
    · exact absurd a2 (b2 p a1)
    · rcases Nat.lt_trichotomy p q with e | e | e
      · by_cases c : last = 0
        · exact absurd a2 (b4 c p e)
        · exact absurd b2 (a5 c q e b1)
      · rw [a3, b3, e]
      · by_cases c : last = 0
        · exact absurd b2 (a4 c q e)
        · exact absurd a2 (b5 c p e a1)
section SP
variable {σC σM : pm_M} {t : Int} {m N P : Nat}
set_option maxHeartbeats 8000000 in
theorem e_has (hol : R_old σC σM) (hmr : R_mrk σC σM) (hN : σC 26 8 = N) (hN8 : N ≤ 80) (ht : wr t = t) (hm : m < 8) (hP : P < N) (hpr : 0 ≤ σC 30 P ∧ σC 30 P < 4) : ∃ s : Int, (s = 0 ∨ s = 1) ∧ fX4_hasNear P m t σC = some s ∧ (s = 1 ↔ hitp σC t m P) := by
  have e3 : Int.tdiv (m : Int) 2 = ((m / 2 : Nat) : Int) := by
    rw [Int.tdiv_eq_ediv_of_nonneg (by omega)]; omega
  have e4 : Int.tmod (m : Int) 2 = ((m % 2 : Nat) : Int) := by
    rw [Int.tmod_eq_emod_of_nonneg (by omega)]; omega
  obtain ⟨-, g1, g2⟩ := e_gs (g := 0) hmr (p := P) (by omega) (by omega) (by decide)
  obtain ⟨e, he⟩ := Int.eq_ofNat_of_zero_le g1
  have gie : ∀ i, gi σC P i = if i / 2 < e then i % 2 else i % 2 + 2 := by
    intro i
    unfold gi
    rw [he]
    by_cases q : i / 2 < e
    · rw [if_pos q, if_pos (by omega)]
    · rw [if_neg q, if_neg (by omega)]
  have hh : ∀ i, i < 60 → (hit σC t m (60 * P + i) ↔ 2 * σC 30 P + ((i % 2 : Nat) : Int) = m ∧ ly (dd σC P (gi σC P i)) t 6 = true) := by
    intro i hi
    unfold hit
    rw [show (60 * P + i) / 60 = P by omega, show (60 * P + i) % 60 = i by omega, show (60 * P + i) % 2 = i % 2 by omega]
  unfold fX4_hasNear
  by_cases c : σC 30 P = ((m / 2 : Nat) : Int)
  · obtain ⟨y, e1, hQ⟩ := pm_it_ok (f := fun a : Int => bdX4_hasNear_22 P t σC a)
      (fun a => ∃ z : Nat, a = z ∧ z ≤ 5 ∧ z % 2 = m % 2 ∧ ∀ i, i < 60 → i % 2 = m % 2 → gi σC P i < z → ly (dd σC P (gi σC P i)) t 6 = false)
      (fun y => (∃ k, y = .inl k ∧ hitp σC t m P) ∨ (∃ k, y = .inr k ∧ ¬ hitp σC t m P)) (fun a => 6 - a.toNat) (by
        rintro a ⟨z, hz, hle, hz2, hq⟩
        subst hz
        by_cases c4 : 4 ≤ z
        · refine Or.inl ⟨.inr (z : Int), ?_, Or.inr ⟨_, rfl, ?_⟩⟩
          · unfold bdX4_hasNear_22
            simp (disch := omega) only [wr_eq, if_pos, if_true]
          · rintro ⟨i, i1, i2⟩
            obtain ⟨j1, j2⟩ := (hh i i1).mp i2
            have := hq i i1 (by omega) (by have := gi_b (σC := σC) (p := P) (i := i); omega)
            rw [this] at j2
            exact absurd j2 (by decide)
        · obtain ⟨gs, -⟩ := e_gs (g := z) hmr (p := P) (by omega) (by omega) (by omega)
          rw [he] at gs
          have el := e_lies (p := P) (g := z) hol ht (by omega) (by omega)
          by_cases ce : (z < 2 ∧ e = 0) ∨ (2 ≤ z ∧ e = 30)
          · have gz : (if z < 2 then (e : Int) else 30 - e) = 0 := by split <;> omega
            rw [gz] at gs
            refine Or.inr ⟨(z : Int) + 2, ?_, ⟨z + 2, by simp, by omega, by omega, fun i i1 i2 i3 => ?_⟩, by simp; omega⟩
            · unfold bdX4_hasNear_22
              rw [gs]
              simp (disch := omega) only [wr_eq, if_neg, if_pos, if_true, if_false, Option.bind_some]
            · have g0 := gie i
              refine hq i i1 i2 ?_
              rw [g0] at i3 ⊢
              by_cases q : i / 2 < e
              · rw [if_pos q] at i3 ⊢; omega
              · rw [if_neg q] at i3 ⊢; omega
          · have gp : 0 < (if z < 2 then (e : Int) else 30 - e) ∧ (if z < 2 then (e : Int) else 30 - e) ≤ 30 := by split <;> omega
            generalize (if z < 2 then (e : Int) else 30 - e) = G at gs gp
            by_cases cl : ly (dd σC P z) t 6 = true
            · rw [if_pos cl] at el
              refine Or.inl ⟨.inl (z : Int), ?_, Or.inl ⟨_, rfl, ?_⟩⟩
              · unfold bdX4_hasNear_22
                rw [gs, el]
                simp (disch := omega) only [wr_eq, if_neg, if_false, Option.bind_some]
              · have gfb : gf e z < 60 := by unfold gf; split <;> omega
                have gfi : gi σC P (gf e z) = z := by
                  rw [gie]
                  unfold gf
                  by_cases q : z < 2
                  · rw [if_pos q, if_pos (by omega)]; omega
                  · rw [if_neg q, if_neg (by omega)]; omega
                have gfp : gf e z % 2 = m % 2 := by
                  unfold gf
                  split <;> omega
                refine ⟨gf e z, gfb, (hh _ gfb).mpr ⟨by omega, by rw [gfi]; exact cl⟩⟩
            · rw [if_neg cl] at el
              refine Or.inr ⟨(z : Int) + 2, ?_, ⟨z + 2, by simp, by omega, by omega, fun i i1 i2 i3 => ?_⟩, by simp; omega⟩
              · unfold bdX4_hasNear_22
                rw [gs, el]
                simp (disch := omega) only [wr_eq, if_neg, if_pos, if_true, if_false, Option.bind_some]
              · by_cases q : gi σC P i = z
                · rw [q]; exact Bool.eq_false_iff.mpr cl
                · refine hq i i1 i2 ?_
                  have g0 := gie i
                  rw [g0] at i3 q ⊢
                  by_cases q2 : i / 2 < e
                  · rw [if_pos q2] at i3 q ⊢; omega
                  · rw [if_neg q2] at i3 q ⊢; omega) pm_fuel ((m % 2 : Nat) : Int) ⟨m % 2, rfl, by omega, by omega, fun i i1 i2 i3 => by
        have g0 := gie i
        rw [g0] at i3
        split at i3 <;> omega⟩ (pm_fl (by omega))
    rcases hQ with ⟨k, q1, q2⟩ | ⟨k, q1, q2⟩
    · subst q1
      refine ⟨1, Or.inr rfl, ?_, fun _ => q2, fun _ => rfl⟩
      simp (disch := omega) only [wr_eq, pm_gt, Int.toNat_natCast, c, e3, e4, if_true, e1, Option.bind_some]
    · subst q1
      refine ⟨0, Or.inl rfl, ?_, fun q => by omega, fun q => absurd q q2⟩
      simp (disch := omega) only [wr_eq, pm_gt, Int.toNat_natCast, c, e3, e4, if_true, e1, Option.bind_some]
  · refine ⟨0, Or.inl rfl, ?_, fun q => by omega, fun q => ?_⟩
    · simp (disch := omega) only [wr_eq, pm_gt, Int.toNat_natCast, e3, if_neg, if_false]
    · obtain ⟨i, i1, i2⟩ := q
      obtain ⟨j1, j2⟩ := (hh i i1).mp i2
      omega
set_option maxHeartbeats 8000000 in
theorem s_C {last : Int} (hol : R_old σC σM) (hmr : R_mrk σC σM) (hN : σC 26 8 = N) (hN8 : N ≤ 80) (ht : wr t = t) (hm : m < 8) (hl : last = 0 ∨ last = 1) (hpr : ∀ p, p < N → 0 ≤ σC 30 p ∧ σC 30 p < 4) : ∃ x, fX4_hourOf m t last σC = some x ∧ spn σC t m last N x := by
  unfold fX4_hourOf
  obtain ⟨y, e1, hQ⟩ := pm_it_ok (f := fun a : Int × Int => bdX4_hourOf_7 m t last σC a.1 a.2)
    (fun a => ∃ z : Nat, a.2 = z ∧ z ≤ N ∧ spn σC t m last z a.1 ∧ (last = 0 → a.1 = -9 ∧ ∀ p, p < z → ¬ hitp σC t m p))
    (fun y => match y with | .inl y => spn σC t m last N y.1 | .inr y => spn σC t m last N y.1) (fun a => N - a.2.toNat) (by
      rintro ⟨k, a⟩ ⟨z, hz, hle, h1, h2⟩
      dsimp only at hz h1 h2 ⊢
      subst hz
      by_cases c : z = N
      · subst c
        refine Or.inl ⟨.inr (k, (z : Int)), ?_, h1⟩
        unfold bdX4_hourOf_7
        rw [hN]
        simp (disch := omega) only [wr_eq, if_pos, if_true]
      · obtain ⟨s, hs, s1, s2⟩ := e_has (t := t) (m := m) (P := z) hol hmr hN hN8 ht hm (by omega) (hpr z (by omega))
        rcases hs with rfl | rfl
        · have nh : ¬ hitp σC t m z := fun q => by have := s2.mpr q; omega
          refine Or.inr ⟨(k, (z : Int) + 1), ?_, ⟨z + 1, by simp, by omega, ?_, fun hl0 => ?_⟩, by simp; omega⟩
          · unfold bdX4_hourOf_7
            rw [hN, s1]
            simp (disch := omega) only [wr_eq, if_neg, if_pos, if_true, if_false, Option.bind_some]
          · rcases h1 with ⟨a1, a2⟩ | ⟨p, a1, a2, a3, a4, a5⟩
            · refine Or.inl ⟨a1, fun p hp => ?_⟩
              by_cases e : p = z
              · rw [e]; exact nh
              · exact a2 p (by omega)
            · refine Or.inr ⟨p, by omega, a2, a3, a4, fun q p' h1 h2 => ?_⟩
              by_cases e : p' = z
              · rw [e]; exact nh
              · exact a5 q p' h1 (by omega)
          · obtain ⟨b1, b2⟩ := h2 hl0
            refine ⟨b1, fun p hp => ?_⟩
            by_cases e : p = z
            · rw [e]; exact nh
            · exact b2 p (by omega)
        · have yh : hitp σC t m z := s2.mp rfl
          rcases hl with rfl | rfl
          · refine Or.inl ⟨.inl (σC 32 z, (z : Int)), ?_, Or.inr ⟨z, by omega, yh, rfl, fun _ p' hp' => (h2 rfl).2 p' hp', fun q => absurd rfl q⟩⟩
            unfold bdX4_hourOf_7
            rw [hN, s1]
            simp (disch := omega) only [wr_eq, if_neg, if_pos, if_true, if_false, Option.bind_some, pm_gt, Int.toNat_natCast]
          · refine Or.inr ⟨(σC 32 z, (z : Int) + 1), ?_, ⟨z + 1, by simp, by omega, Or.inr ⟨z, by omega, yh, rfl, fun q => absurd q (by decide), fun _ p' h1 h2 => by omega⟩, fun q => absurd q (by decide)⟩, by simp; omega⟩
            unfold bdX4_hourOf_7
            rw [hN, s1]
            simp (disch := omega) only [wr_eq, if_neg, if_false, Option.bind_some, pm_gt, Int.toNat_natCast]) pm_fuel (-9, 0) ⟨0, rfl, by omega, Or.inl ⟨rfl, fun p hp => by omega⟩, fun _ => ⟨rfl, fun p hp => by omega⟩⟩ (pm_fl (by show N - Int.toNat 0 < 100000; omega))
  rw [e1, Option.bind_some]
  rcases y with y | y
  · exact ⟨y.1, rfl, hQ⟩
  · exact ⟨y.1, rfl, hQ⟩
set_option maxHeartbeats 8000000 in
theorem s_M {last : Int} (hol : R_old σC σM) (hmr : R_mrk σC σM) (hN : σC 26 8 = N) (hN8 : N ≤ 80) (hM : σM 25 (Int.toNat 752) = N) (ht : wr t = t) (hm : m < 8) (hl : last = 0 ∨ last = 1) (hpr : ∀ p, p < N → 0 ≤ σC 30 p ∧ σC 30 p < 4 ∧ σC 30 p = σM 25 (112 + 8 * p) ∧ σC 32 p = σM 25 (114 + 8 * p) ∧ 0 ≤ σC 32 p ∧ σC 32 p ≤ 2400) (hmono : ∀ p q : Nat, p ≤ q → q < N → σC 32 p ≤ σC 32 q) : ∃ x z, pm_it (fun a : Int × Int => bdX12_span_45 m t last σM a.1 a.2) pm_fuel (-9, 0) = some (x, z) ∧ spn σC t m last N x := by
  obtain ⟨y, e1, hQ⟩ := pm_it_ok (f := fun a : Int × Int => bdX12_span_45 m t last σM a.1 a.2)
    (fun a => ∃ z : Nat, a.2 = z ∧ z ≤ 60 * N ∧ ((a.1 = -9 ∧ ∀ j, j < z → ¬ hit σC t m j) ∨ (∃ j, j < z ∧ hit σC t m j ∧ a.1 = σC 32 (j / 60) ∧ (last = 0 → ∀ j', j' < j → ¬ hit σC t m j') ∧ (last ≠ 0 → ∀ j', j < j' → j' < z → ¬ hit σC t m j'))))
    (fun y => spn σC t m last N y.1) (fun a => 60 * N - a.2.toNat) (by
      rintro ⟨k, a⟩ ⟨z, hz, hle, h1⟩
      dsimp only at hz h1 ⊢
      subst hz
      by_cases c : z = 60 * N
      · refine Or.inl ⟨(k, (z : Int)), ?_, ?_⟩
        · unfold bdX12_span_45
          rw [hM]
          simp (disch := omega) only [wr_eq, if_pos, if_true]
        · dsimp only
          rcases h1 with ⟨a1, a2⟩ | ⟨j, a1, a2, a3, a4, a5⟩
          · exact Or.inl ⟨a1, fun p hp => by rintro ⟨i, i1, i2⟩; exact a2 _ (by omega) i2⟩
          · refine Or.inr ⟨j / 60, by omega, ⟨j % 60, by omega, by rw [show 60 * (j / 60) + j % 60 = j by omega]; exact a2⟩, a3, fun q p' hp' => ?_, fun q p' h1 h2 => ?_⟩
            · rintro ⟨i, i1, i2⟩
              exact a4 q _ (by omega) i2
            · rintro ⟨i, i1, i2⟩
              exact a5 q _ (by omega) (by omega) i2
      · obtain ⟨r1, r2, r3, r4, r5, r6⟩ := hpr (z / 60) (by omega)
        have e60 : Int.tdiv (z : Int) 60 = ((z / 60 : Nat) : Int) := by
          rw [Int.tdiv_eq_ediv_of_nonneg (by omega)]; omega
        have e2 : Int.tmod (z : Int) 2 = ((z % 2 : Nat) : Int) := by
          rw [Int.tmod_eq_emod_of_nonneg (by omega)]; omega
        have i1 : Int.toNat (111 + 8 * ((z / 60 : Nat) : Int) + 1) = 112 + 8 * (z / 60) := by omega
        have i3 : Int.toNat (111 + 8 * ((z / 60 : Nat) : Int) + 3) = 114 + 8 * (z / 60) := by omega
        have em : fX12_mouldOfSheet z σM = some (2 * σC 30 (z / 60) + ((z % 2 : Nat) : Int)) := by
          unfold fX12_mouldOfSheet fX12_post
          simp (disch := omega) only [wr_eq, pm_gt, e60, e2, i1, Option.bind_some, ← r3]
        have ep : fX12_post (Int.tdiv (wr (z : Int)) 60) 3 σM = some (σC 32 (z / 60)) := by
          unfold fX12_post
          simp (disch := omega) only [wr_eq, pm_gt, e60, i3, ← r4]
        have eb := e_isBy (p := z / 60) (i := z % 60) hol hmr ht (by omega) (by omega) (by omega)
        rw [show 60 * (z / 60) + z % 60 = z by omega] at eb
        have keep : ¬ hit σC t m z → bdX12_span_45 m t last σM k z = some (.inr (k, (z : Int) + 1)) → (∃ b, bdX12_span_45 m t last σM k z = some (.inl b) ∧ spn σC t m last N b.1) ∨ ∃ a', bdX12_span_45 m t last σM k z = some (.inr a') ∧ (∃ z : Nat, a'.2 = z ∧ z ≤ 60 * N ∧ ((a'.1 = -9 ∧ ∀ j, j < z → ¬ hit σC t m j) ∨ (∃ j, j < z ∧ hit σC t m j ∧ a'.1 = σC 32 (j / 60) ∧ (last = 0 → ∀ j', j' < j → ¬ hit σC t m j') ∧ (last ≠ 0 → ∀ j', j < j' → j' < z → ¬ hit σC t m j')))) ∧ 60 * N - a'.2.toNat < 60 * N - (z : Int).toNat := by
          intro nh hst
          refine Or.inr ⟨_, hst, ⟨z + 1, by simp, by omega, ?_⟩, by simp; omega⟩
          rcases h1 with ⟨a1, a2⟩ | ⟨j, a1, a2, a3, a4, a5⟩
          · refine Or.inl ⟨a1, fun j hj => ?_⟩
            by_cases e : j = z
            · rw [e]; exact nh
            · exact a2 j (by omega)
          · refine Or.inr ⟨j, by omega, a2, a3, a4, fun q j' h1 h2 => ?_⟩
            by_cases e : j' = z
            · rw [e]; exact nh
            · exact a5 q j' h1 (by omega)
        by_cases c1 : 2 * σC 30 (z / 60) + ((z % 2 : Nat) : Int) = m
        · by_cases c2 : ly (dd σC (z / 60) (gi σC (z / 60) (z % 60))) t 6 = true
          · have yh : hit σC t m z := ⟨c1, c2⟩
            rw [if_pos c2] at eb
            rcases h1 with ⟨a1, a2⟩ | ⟨j, a1, a2, a3, a4, a5⟩
            · refine Or.inr ⟨(σC 32 (z / 60), (z : Int) + 1), ?_, ⟨z + 1, by simp, by omega, Or.inr ⟨z, by omega, yh, rfl, fun _ j' hj' => a2 j' hj', fun _ j' h1 h2 => by omega⟩⟩, by simp; omega⟩
              unfold bdX12_span_45
              rw [hM, em, eb, ep]
              simp (disch := omega) only [wr_eq, if_neg, if_pos, if_true, if_false, Option.bind_some]
            · have mo := hmono (j / 60) (z / 60) (by omega) (by omega)
              obtain ⟨-, -, -, -, q5, q6⟩ := hpr (j / 60) (by omega)
              rcases hl with rfl | rfl
              · refine Or.inr ⟨(k, (z : Int) + 1), ?_, ⟨z + 1, by simp, by omega, Or.inr ⟨j, by omega, a2, a3, a4, fun q => absurd rfl q⟩⟩, by simp; omega⟩
                unfold bdX12_span_45
                rw [hM, em, eb, ep]
                simp (disch := omega) only [wr_eq, if_neg, if_pos, if_true, if_false, Option.bind_some]
              · by_cases c3 : σC 32 (z / 60) ≤ k
                · refine Or.inr ⟨(k, (z : Int) + 1), ?_, ⟨z + 1, by simp, by omega, Or.inr ⟨z, by omega, yh, by dsimp only; omega, fun q => absurd q (by decide), fun _ j' h1 h2 => by omega⟩⟩, by simp; omega⟩
                  unfold bdX12_span_45
                  rw [hM, em, eb, ep]
                  simp (disch := omega) only [wr_eq, if_neg, if_pos, if_true, if_false, Option.bind_some]
                · refine Or.inr ⟨(σC 32 (z / 60), (z : Int) + 1), ?_, ⟨z + 1, by simp, by omega, Or.inr ⟨z, by omega, yh, rfl, fun q => absurd q (by decide), fun _ j' h1 h2 => by omega⟩⟩, by simp; omega⟩
                  unfold bdX12_span_45
                  rw [hM, em, eb, ep]
                  simp (disch := omega) only [wr_eq, if_neg, if_pos, if_true, if_false, Option.bind_some]
          · rw [if_neg c2] at eb
            refine keep (fun q => c2 q.2) ?_
            unfold bdX12_span_45
            rw [hM, em, eb]
            simp (disch := omega) only [wr_eq, if_neg, if_pos, if_true, if_false, Option.bind_some]
        · refine keep (fun q => c1 q.1) ?_
          unfold bdX12_span_45
          rw [hM, em]
          simp (disch := omega) only [wr_eq, if_neg, if_pos, if_true, if_false, Option.bind_some]) pm_fuel (-9, 0) ⟨0, rfl, by omega, Or.inl ⟨rfl, fun j hj => by omega⟩⟩ (pm_fl (by show 60 * N - Int.toNat 0 < 100000; omega))
  exact ⟨y.1, y.2, e1, hQ⟩
end SP
set_option maxHeartbeats 4000000 in
theorem s_span : sp_span pm_R := by
  intro x1 x2 x3 σC σM h
  show pp_ pm_R _ _
  have w1 := wr_to x1
  have w2 := wr_to x2
  generalize x1.toInt = a at w1 ⊢
  generalize x2.toInt = t at w2 ⊢
  have hl : (if x3 = 0 then (0 : Int) else 1) = 0 ∨ (if x3 = 0 then (0 : Int) else 1) = 1 := by
    split
    · exact Or.inl rfl
    · exact Or.inr rfl
  generalize (if x3 = 0 then (0 : Int) else 1) = l at hl ⊢
  obtain ⟨hrf, hrg, hmo, hor, hol, hwe, ⟨t1, t2, t3, t4, t5, t6⟩, hmr, htr⟩ := id h
  obtain ⟨u1, u2, u3, u4, u5, u6⟩ := id t3
  obtain ⟨p1, p2, p3, p4, p5, p6, p7, p8, p9, p10, p11⟩ := id t4
  simp only [Nat.reduceAdd] at u1 u2 u3 p1 p2 p3 p4 p5
  obtain ⟨N, hN⟩ := Int.eq_ofNat_of_zero_le (show 0 ≤ σC 26 8 by omega)
  have p1' : σM 25 (Int.toNat 752) = N := by rw [← hN]; exact p1.symm
  have e : wr (2 * σC 22 3) = 2 * σC 22 3 := wr_eq (by omega) (by omega)
  have e2 : pm_g ((if 0 ≤ a ∧ a < 2 * σC 22 3 then (1 : Int) else 0) = 0 ∨ (if 0 ≤ a ∧ a < 2 * σC 22 3 then (1 : Int) else 0) = 1) (some (if 0 ≤ a ∧ a < 2 * σC 22 3 then (1 : Int) else 0)) = some (if 0 ≤ a ∧ a < 2 * σC 22 3 then 1 else 0) := by
    unfold pm_g
    rw [if_pos (by split <;> simp)]
  unfold fX11_span fX12_span fX11_isMould jnX12_span_24
  rw [← u1, e_num w1 e, e_in w1 e, Option.bind_some, e2, e_wrong w2 wr_0, w2, wr_eq (x := 99) (by decide) (by decide)]
  refine pp_b (fun c1 => ?_) (fun _ => ?_)
  · obtain ⟨m, rfl⟩ := Int.eq_ofNat_of_zero_le c1.1
    rw [Option.bind_some]
    by_cases c2 : 0 ≤ t
    · rw [if_pos c2, if_pos c2]
      by_cases c3 : t ≤ 99
      · rw [if_pos c3, if_pos c3, if_pos wr_0]
        have hpr : ∀ p, p < N → 0 ≤ σC 30 p ∧ σC 30 p < 4 ∧ σC 30 p = σM 25 (112 + 8 * p) ∧ σC 32 p = σM 25 (114 + 8 * p) ∧ 0 ≤ σC 32 p ∧ σC 32 p ≤ 2400 := by
          intro p hp
          have P := p9 p (by show (p : Int) < σC 26 8; omega)
          simp only [Nat.reduceAdd] at P
          obtain ⟨⟨a1, a2, a3⟩, -, ⟨a4, a5, a6⟩, -⟩ := P
          have n3 : σC 15 7 ≤ 2400 := t1.2.2.1
          exact ⟨a2, by omega, a1, a4, a5, by omega⟩
        obtain ⟨x, q1, q2⟩ := s_C (t := t) (m := m) (last := l) hol hmr hN (by omega) w2 (by omega) hl (fun p hp => ⟨(hpr p hp).1, (hpr p hp).2.1⟩)
        obtain ⟨y, z, q3, q4⟩ := s_M (t := t) (m := m) (last := l) hol hmr hN (by omega) p1' w2 (by omega) hl hpr (fun p q h1 h2 => p11 p q h1 (by show (q : Int) < σC 26 8; omega))
        rw [q1, q3, Option.bind_some, Option.bind_some]
        exact pp_ret (spn_u q2 q4) h
      · rw [if_neg c3, if_neg c3, if_neg (by decide)]
        exact pp_ref h (by decide)
    · rw [if_neg c2, if_neg c2, if_neg (by decide)]
      exact pp_ref h (by decide)
  · rw [if_neg (by decide)]
    exact pp_ref h (by decide)
