/-! ===== an hour: the marks ===== -/
section MK
variable {σC σM σC' σM' : pm_M} {v p g P : Nat}
set_option maxHeartbeats 8000000 in
theorem mrk_sheet (h : R_mrk σC σM) (hv : v < 3) (hp : σC 38 v = p) (hp4 : p < 4) (hg : σC 40 v = g) (hg60 : g < 60) (hc : ∀ i, i < 8 → 0 ≤ σC 25 i)
    (hd : ∀ u, u < 3 → u ≠ v → σC 38 u ≠ p) (hq : ∀ u, u < 3 → 0 < σC 40 u → 0 ≤ σC 38 u) (hh : ∀ u, u < 3 → σC 38 u < 4) (hb : ∀ u, u < 3 → σC 40 u ≤ 60)
    (e24 : σC' 24 = wrow (2 * p + g % 2) (σC 25 (2 * p + g % 2) + 1) (σC 24)) (e25 : ∀ i, σC' 25 i = if i = 2 * p + g % 2 then σC 25 i + 1 else σC 25 i) (e38 : σC' 38 = σC 38)
    (e40 : ∀ i, σC' 40 i = if i = v then (g : Int) + 1 else σC 40 i) (e42 : ∀ i, σC' 42 i = if g = 0 ∧ 12 * v ≤ i ∧ i < 12 * v + 12 then σC 24 (12 * p + (i - 12 * v)) else σC 42 i)
    (e26 : σC' 26 8 = σC 26 8) (e28 : σC' 28 = σC 28) (e29 : σC' 29 = σC 29)
    (m12 : σM' 12 = wrow (2 * p + g % 2) (σM 13 (2 * p + g % 2) + 1) (σM 12)) (m13 : ∀ i, σM' 13 i = if i = 2 * p + g % 2 then σM 13 i + 1 else σM 13 i)
    (m23 : ∀ i, σM' 23 i = if 6 * (60 * v + g) ≤ i ∧ i < 6 * (60 * v + g) + 6 then σM 12 (6 * (2 * p + g % 2) + (i - 6 * (60 * v + g))) else σM 23 i) (m22 : σM' 22 = σM 22) : R_mrk σC' σM' := by
  obtain ⟨k1, k2, k3, k4, k5, k6, k7⟩ := h
  have hcm := hc (2 * p + g % 2) (by omega)
  have km := k2 (2 * p + g % 2) (by omega)
  have kv := k3 v hv (by omega)
  rw [hp, hg, Int.toNat_natCast] at kv
  refine ⟨?_, ?_, ?_, ?_, ?_, ?_, ?_⟩
  · intro i hi
    obtain ⟨a1, a2, a3⟩ := k1 i hi
    rw [e24, m12, ← km]
    have b := wrow_b (m := 2 * p + g % 2) (c := σC 25 (2 * p + g % 2) + 1) (fun i hi => (k1 i hi).2) i hi
    refine ⟨?_, b⟩
    unfold wrow
    rw [a1]
  · intro i hi
    rw [e25 i, m13 i, k2 i hi]
  · intro u hu h0
    rw [e38] at h0 ⊢
    rw [e40 u, e25, e25]
    by_cases e : u = v
    · subst e
      rw [hp, Int.toNat_natCast, if_pos rfl]
      by_cases q : g % 2 = 0
      · rw [if_pos (by omega), if_neg (by omega)]; omega
      · rw [if_neg (by omega), if_pos (by omega)]; omega
    · have h1 := hd u hu e
      rw [if_neg e, if_neg (by omega), if_neg (by omega)]
      exact k3 u hu h0
  · intro i hi hne
    have h1 := hne v hv
    rw [e38, hp] at h1
    rw [e25, e25, if_neg (by omega), if_neg (by omega)]
    exact k4 i hi (fun u hu => by have := hne u hu; rw [e38] at this; exact this)
  · intro u q hu hq2 hb0 hk w hw
    rw [e38] at hk ⊢
    rw [e40] at hb0 hk
    rw [e25] at hk
    rw [e42, e24]
    by_cases e : u = v
    · subst e
      rw [hp, Int.toNat_natCast] at hk ⊢
      rw [if_pos rfl] at hk
      unfold k_n at hk
      by_cases q1 : q = g % 2
      · subst q1
        rw [if_pos rfl] at hk
        have c1 : (σC 25 (2 * p + g % 2) + 1) % 50 ≠ 0 := by omega
        rw [wrow_n c1]
        by_cases g0 : g = 0
        · rw [if_pos (by omega)]
          congr 1
          omega
        · rw [if_neg (by omega)]
          have z := k5 u (g % 2) hu hq2 (by omega) (by rw [hg, hp, Int.toNat_natCast]; unfold k_n; omega) w hw
          rw [hp, Int.toNat_natCast] at z
          exact z
      · rw [if_neg (by omega)] at hk
        rw [wrow_o (by omega)]
        by_cases g0 : g = 0
        · rw [if_pos (by omega)]
          congr 1
          omega
        · rw [if_neg (by omega)]
          have z := k5 u q hu hq2 (by omega) (by rw [hg, hp, Int.toNat_natCast]; unfold k_n; omega) w hw
          rw [hp, Int.toNat_natCast] at z
          exact z
    · rw [if_neg e] at hb0 hk
      have h1 := hd u hu e
      have h2 := hq u hu hb0
      rw [if_neg (by omega)] at hk ⊢
      rw [wrow_o (by omega)]
      exact k5 u q hu hq2 hb0 hk w hw
  · intro u i w hu hi hw
    rw [e40] at hi ⊢
    rw [e38, e25, m23, e42, e24]
    by_cases e : u = v
    · subst e
      rw [hp, Int.toNat_natCast, if_pos rfl]
      rw [if_pos rfl] at hi
      by_cases ei : i = g
      · subst ei
        rw [if_pos (show 6 * (60 * u + i) ≤ 6 * (60 * u + i) + w ∧ _ by omega), if_pos rfl]
        have a0 := (k1 (6 * (2 * p + i % 2) + w) (by omega)).1
        rw [show 6 * (2 * p + i % 2) + (6 * (60 * u + i) + w - 6 * (60 * u + i)) = 12 * p + 6 * (i % 2) + w by omega]
        rw [show 6 * (2 * p + i % 2) + w = 12 * p + 6 * (i % 2) + w by omega] at a0
        rw [← a0]
        have f0 : (σC 25 (2 * p + i % 2) % 50 ≥ ((i / 2 : Nat) : Int)) → σC 24 (12 * p + 6 * (i % 2) + w) = if i = 0 ∧ 12 * u ≤ 12 * u + 6 * (i % 2) + w ∧ 12 * u + 6 * (i % 2) + w < 12 * u + 12 then σC 24 (12 * p + (12 * u + 6 * (i % 2) + w - 12 * u)) else σC 42 (12 * u + 6 * (i % 2) + w) := by
          intro hr
          by_cases g0 : i = 0
          · rw [if_pos (by omega)]
            congr 1
            omega
          · rw [if_neg (by omega)]
            have z := k5 u (i % 2) hu (by omega) (by omega) (by rw [hg, hp, Int.toNat_natCast]; unfold k_n; omega) w hw
            rw [hp, Int.toNat_natCast] at z
            exact z.symm
        by_cases c1 : (σC 25 (2 * p + i % 2) + 1) % 50 = 0
        · have eE : ((i / 2 : Nat) : Int) < k_E (σC 25 (2 * p + i % 2) + 1) (k_n ((i : Int) + 1) (i % 2)) := by
            unfold k_E k_n
            rw [if_pos (by omega)]
            omega
          rw [if_pos eE]
          exact f0 (by omega)
        · rw [wrow_n c1]
          by_cases c2 : (σC 25 (2 * p + i % 2) + 1) % 50 < k_n ((i : Int) + 1) (i % 2)
          · have eE : ¬ ((i / 2 : Nat) : Int) < k_E (σC 25 (2 * p + i % 2) + 1) (k_n ((i : Int) + 1) (i % 2)) := by
              unfold k_E
              rw [if_pos c2]
              unfold k_n at c2 ⊢
              omega
            rw [if_neg eE]
          · have eE : ((i / 2 : Nat) : Int) < k_E (σC 25 (2 * p + i % 2) + 1) (k_n ((i : Int) + 1) (i % 2)) := by
              unfold k_E
              rw [if_neg c2]
              unfold k_n
              omega
            rw [if_pos eE]
            unfold k_n at c2
            exact f0 (by omega)
      · have g0 : g ≠ 0 := by omega
        rw [if_neg (show ¬ (6 * (60 * u + g) ≤ 6 * (60 * u + i) + w ∧ _) by omega), if_neg (show ¬ (g = 0 ∧ _) by omega)]
        have z := k6 u i w hu (by omega) hw
        rw [hp, hg, Int.toNat_natCast] at z
        by_cases q1 : i % 2 = g % 2
        · rw [q1] at z ⊢
          rw [if_pos rfl]
          by_cases c1 : (σC 25 (2 * p + g % 2) + 1) % 50 = 0
          · have eE : ((i / 2 : Nat) : Int) < k_E (σC 25 (2 * p + g % 2) + 1) (k_n ((g : Int) + 1) (g % 2)) := by
              unfold k_E k_n
              rw [if_pos (by omega)]
              omega
            have eO : ((i / 2 : Nat) : Int) < k_E (σC 25 (2 * p + g % 2)) (k_n (g : Int) (g % 2)) := by
              unfold k_E k_n
              rw [if_neg (by omega)]
              omega
            rw [if_pos eE]
            rw [if_pos eO] at z
            exact z
          · rw [wrow_n c1, z]
            have eE : k_E (σC 25 (2 * p + g % 2) + 1) (k_n ((g : Int) + 1) (g % 2)) = k_E (σC 25 (2 * p + g % 2)) (k_n (g : Int) (g % 2)) ∨ (((i / 2 : Nat) : Int) < k_E (σC 25 (2 * p + g % 2) + 1) (k_n ((g : Int) + 1) (g % 2)) ∧ ((i / 2 : Nat) : Int) < k_E (σC 25 (2 * p + g % 2)) (k_n (g : Int) (g % 2))) := by
              unfold k_E k_n
              by_cases c2 : σC 25 (2 * p + g % 2) % 50 < ((g : Int) + 1 - ((g % 2 : Nat) : Int)) / 2
              · left
                rw [if_pos (by omega), if_pos c2]
                omega
              · right
                rw [if_neg (by omega), if_neg c2]
                omega
            rcases eE with eE | ⟨e1, e2⟩
            · rw [eE]
            · rw [if_pos e1, if_pos e2]
        · rw [if_neg (show ¬ (2 * p + i % 2 = 2 * p + g % 2) by omega), wrow_o (by omega)]
          have en : k_n ((g : Int) + 1) (i % 2) = k_n (g : Int) (i % 2) := by
            unfold k_n
            omega
          rw [en]
          exact z
    · rw [if_neg e] at hi ⊢
      have h1 := hd u hu e
      have h2 := hq u hu (by omega)
      have h3 := hb u hu
      rw [if_neg (show ¬ (6 * (60 * v + g) ≤ 6 * (60 * u + i) + w ∧ _) by omega), if_neg (show ¬ (2 * (σC 38 u).toNat + i % 2 = 2 * p + g % 2) by omega), if_neg (show ¬ (g = 0 ∧ _) by omega), wrow_o (by omega)]
      exact k6 u i w hu hi hw
  · intro i hi
    rw [e26] at hi
    rw [e28, e29, m22]
    exact k7 i hi
set_option maxHeartbeats 8000000 in
theorem mrk_post (h : R_mrk σC σM) (hv : v < 3) (hp : σC 38 v = p) (hp4 : p < 4) (hg : σC 40 v = 60) (hc : ∀ i, i < 8 → 0 ≤ σC 25 i) (hP : σC 26 8 = P) (hf : ∀ i, i < 36 → 0 ≤ σC 42 i ∧ σC 42 i ≤ 99)
    (e24 : σC' 24 = σC 24) (e25 : σC' 25 = σC 25) (e38 : σC' 38 = σC 38) (e42 : σC' 42 = σC 42)
    (e40 : ∀ i, σC' 40 i = if i = v then 0 else σC 40 i) (e26 : σC' 26 8 = (P : Int) + 1)
    (e28 : ∀ i, σC' 28 i = if 24 * P ≤ i ∧ i < 24 * P + 12 then σC 42 (12 * v + (i - 24 * P)) else if 24 * P + 12 ≤ i ∧ i < 24 * P + 24 then σC 24 (12 * p + (i - (24 * P + 12))) else σC 28 i)
    (e29 : ∀ i, σC' 29 i = if i = P then (if σC 25 (2 * p) % 50 < 30 then 30 - σC 25 (2 * p) % 50 else 0) else σC 29 i)
    (m12 : σM' 12 = σM 12) (m13 : σM' 13 = σM 13) (m23 : σM' 23 = σM 23)
    (m22 : ∀ i, σM' 22 i = if 360 * P ≤ i ∧ i < 360 * P + 360 then σM 23 (360 * v + (i - 360 * P)) else σM 22 i) : R_mrk σC' σM' := by
  obtain ⟨k1, k2, k3, k4, k5, k6, k7⟩ := h
  have kv := k3 v hv (by omega)
  rw [hp, hg, Int.toNat_natCast] at kv
  refine ⟨?_, ?_, ?_, ?_, ?_, ?_, ?_⟩
  · rw [e24, m12]; exact k1
  · rw [e25, m13]; exact k2
  · intro u hu h0
    rw [e38] at h0 ⊢
    rw [e40, e25]
    by_cases e : u = v
    · subst e
      rw [if_pos rfl, hp, Int.toNat_natCast]
      omega
    · rw [if_neg e]; exact k3 u hu h0
  · rw [e25, e38]; exact k4
  · intro u q hu hq2 hb0 hk w hw
    rw [e38] at hk ⊢
    rw [e40] at hb0 hk
    rw [e25] at hk
    rw [e42, e24]
    by_cases e : u = v
    · rw [if_pos e] at hb0
      omega
    · rw [if_neg e] at hb0 hk
      exact k5 u q hu hq2 hb0 hk w hw
  · intro u i w hu hi hw
    rw [e40] at hi ⊢
    rw [e38, e25, e42, e24, m23]
    by_cases e : u = v
    · rw [if_pos e] at hi
      omega
    · rw [if_neg e] at hi ⊢
      exact k6 u i w hu hi hw
  · intro q hq
    rw [e26] at hq
    by_cases eq : q = P
    · subst eq
      rw [e29, if_pos rfl]
      have hc0 := hc (2 * p) (by omega)
      refine ⟨by split <;> omega, by split <;> omega, fun i w hi hw => ?_⟩
      rw [m22, if_pos (by omega), show 360 * v + (6 * (60 * q + i) + w - 360 * q) = 6 * (60 * v + i) + w by omega]
      have z := k6 v i w hv (by omega) hw
      rw [hp, hg, Int.toNat_natCast] at z
      have ek : k_n 60 (i % 2) = 30 := by unfold k_n; omega
      have ec : σC 25 (2 * p + i % 2) = σC 25 (2 * p) := by
        rcases (show i % 2 = 0 ∨ i % 2 = 1 by omega) with e | e
        · rw [e]; rfl
        · rw [e]; omega
      rw [ek, ec] at z
      have hw24 := k1 (12 * p + 6 * (i % 2) + w) (by omega)
      have hf42 := hf (12 * v + 6 * (i % 2) + w) (by omega)
      have e1 : σC' 28 ((q * 4 + i % 2) * 6 + w) = σC 42 (12 * v + 6 * (i % 2) + w) := by
        rw [e28, if_pos (by omega)]
        congr 1
        omega
      have e2 : σC' 28 ((q * 4 + (i % 2 + 2)) * 6 + w) = σC 24 (12 * p + 6 * (i % 2) + w) := by
        rw [e28, if_neg (by omega), if_pos (by omega)]
        congr 1
        omega
      rw [z]
      unfold k_E
      by_cases c : σC 25 (2 * p) % 50 < 30
      · rw [if_pos c]
        by_cases c2 : ((i / 2 : Nat) : Int) < 30 - σC 25 (2 * p) % 50
        · rw [if_pos c2, if_pos c, if_pos c2, e1]
          exact ⟨rfl, hf42⟩
        · rw [if_neg c2, if_pos c, if_neg c2, e2]
          exact ⟨rfl, hw24.2⟩
      · rw [if_neg c, if_pos (show ((i / 2 : Nat) : Int) < 30 by omega), if_neg c, if_neg (show ¬ ((i / 2 : Nat) : Int) < 0 by omega), e2]
        have y := k5 v (i % 2) hv (by omega) (by omega) (by rw [hg, hp, Int.toNat_natCast, ek, ec]; omega) w hw
        rw [hp, Int.toNat_natCast] at y
        exact ⟨y, hf42⟩
    · have hq' : (q : Int) < σC 26 8 := by omega
      obtain ⟨a1, a2, a3⟩ := k7 q hq'
      rw [e29, if_neg eq]
      refine ⟨a1, a2, fun i w hi hw => ?_⟩
      have z := a3 i w hi hw
      rw [m22, if_neg (by omega)]
      have e1 : σC' 28 ((q * 4 + (if ((i / 2 : Nat) : Int) < σC 29 q then i % 2 else i % 2 + 2)) * 6 + w) = σC 28 ((q * 4 + (if ((i / 2 : Nat) : Int) < σC 29 q then i % 2 else i % 2 + 2)) * 6 + w) := by
        by_cases c : ((i / 2 : Nat) : Int) < σC 29 q
        · rw [if_pos c, e28, if_neg (by omega), if_neg (by omega)]
        · rw [if_neg c, e28, if_neg (by omega), if_neg (by omega)]
      rw [e1]
      exact z
end MK
