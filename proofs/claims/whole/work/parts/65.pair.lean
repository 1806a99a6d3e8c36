/-! ===== pair, wire, vat ===== -/
def pm_rw (σ : pm_M) (c : Nat) (f : Nat → Int) : pm_M := fun c' => if c' = c then f else σ c'
theorem pm_rw_of {σ τ : pm_M} {c : Nat} (h : ∀ c', c' ≠ c → τ c' = σ c') : τ = pm_rw σ c (τ c) := by
  funext c'
  unfold pm_rw
  by_cases e : c' = c
  · rw [if_pos e, e]
  · rw [if_neg e, h c' e]
theorem k_n_nn {g : Int} {q : Nat} : k_n g q = (g + 1 - q) / 2 := rfl
set_option maxHeartbeats 4000000 in
theorem s_pair : sp_pair pm_R := by
  intro x1 σC σM h
  show pp_ pm_R _ _
  have w1 := wr_to x1
  generalize x1.toInt = a at w1 ⊢
  obtain ⟨hrf, hrg, hmo, hor, hol, hwe, ⟨t1, t2, t3, t4, t5, t6⟩, hmr, htr⟩ := id h
  obtain ⟨u1, u2, u3, u4, u5, u6⟩ := id t3
  simp only [Nat.reduceAdd] at u1 u2 u3 u4 u5 u6
  have key := e_wtM w1
  unfold fX12_isWeight at key
  have key2 : fX12_isIn (a - 1) 8 = some (if 1 ≤ a ∧ a ≤ 8 then 1 else 0) := by
    obtain ⟨q, k1, k2⟩ := pm_bs key
    obtain ⟨-, k3⟩ := pm_gs k2
    rw [k1, k3]
  have e : wr (σC 22 3) = σC 22 3 := wr_eq (by omega) (by omega)
  unfold fX11_pair fX12_pair
  rw [e_wt w1, key2, ← u1, e]
  refine pp_b (fun c1 => ?_) (fun _ => pp_ref h (by decide))
  refine pp_2 (fun _ => pp_ref h (by decide)) (fun c2 => ?_)
  obtain ⟨p, hp⟩ := Int.eq_ofNat_of_zero_le u2
  unfold fX3_addPair
  simp only [Nat.reduceAdd]
  rw [hp]
  have ep : wr (p : Int) = p := wr_eq (by omega) (by omega)
  rw [ep, Int.toNat_natCast]
  obtain ⟨y, y', e1, e2, hQ⟩ := pm_it_2 (f := fun a : Int × pm_M => bdX3_addPair_12 15 a.1 a.2) (g := fun a : Int × pm_M => bdX12_pair_44 a.1 a.2)
    (fun m b b' => ∃ z : Nat, b.1 = z ∧ b'.1 = z ∧ z ≤ 12 ∧ m = 12 - z ∧ (∀ c, c ≠ 24 → b.2 c = (pm_up σC 23 p a) c) ∧ (∀ c, c ≠ 12 → b'.2 c = (pm_up σM 11 p a) c) ∧ (∀ i, b.2 24 i = if 12 * p ≤ i ∧ i < 12 * p + z then 50 else σC 24 i) ∧ (∀ i, b'.2 12 i = if 12 * p ≤ i ∧ i < 12 * p + z then 50 else σM 12 i))
    (fun b b' => (∀ c, c ≠ 24 → b.2 c = (pm_up σC 23 p a) c) ∧ (∀ c, c ≠ 12 → b'.2 c = (pm_up σM 11 p a) c) ∧ (∀ i, b.2 24 i = if 12 * p ≤ i ∧ i < 12 * p + 12 then 50 else σC 24 i) ∧ (∀ i, b'.2 12 i = if 12 * p ≤ i ∧ i < 12 * p + 12 then 50 else σM 12 i)) (by
      rintro m ⟨z0, σ⟩ ⟨z0', τ⟩ ⟨z, hz, hz', hle, hm, h1, h2, h3, h4⟩
      dsimp only at hz hz' h1 h2 h3 h4 ⊢
      subst hz hz'
      have q1 : σ 22 3 = p := by rw [h1 22 (by decide), pu_ne (by omega)]; exact hp
      have q2 : τ 0 16 = p := by rw [h2 0 (by decide), pu_ne (by omega), ← u1]; exact hp
      by_cases c : 12 ≤ z
      · have ez : z = 12 := by omega
        subst ez
        refine Or.inl ⟨((12 : Nat), σ), ((12 : Nat), τ), ?_, ?_, h1, h2, h3, h4⟩
        · unfold bdX3_addPair_12
          simp (disch := omega) only [wr_eq, if_pos, if_true]
        · unfold bdX12_pair_44
          simp (disch := omega) only [wr_eq, if_pos, if_true]
      · have i1 : Int.toNat ((p : Int) * 12 + z) = 12 * p + z := by omega
        have i2 : Int.toNat (12 * (p : Int) + z) = 12 * p + z := by omega
        refine Or.inr ⟨((z : Int) + 1, pm_up σ 24 (12 * p + z) 50), ((z : Int) + 1, pm_up τ 12 (12 * p + z) 50), m - 1, ?_, ?_, by omega, z + 1, by simp, by simp, by omega, by omega, ?_, ?_, ?_, ?_⟩
        · unfold bdX3_addPair_12
          simp (disch := omega) only [Nat.reduceAdd, q1, wr_eq, if_neg, pm_gt, i1]
        · unfold bdX12_pair_44
          simp (disch := omega) only [q2, wr_eq, if_neg, pm_gt, i2]
        · intro c hc
          dsimp only
          rw [pu_o hc]; exact h1 c hc
        · intro c hc
          dsimp only
          rw [pu_o hc]; exact h2 c hc
        · intro i
          dsimp only
          by_cases ei : i = 12 * p + z
          · rw [pu_eq ⟨rfl, ei⟩, if_pos (by omega)]
          · rw [pu_ne (Or.inr ei), h3 i]
            by_cases q : 12 * p ≤ i ∧ i < 12 * p + z
            · rw [if_pos q, if_pos (by omega)]
            · rw [if_neg q, if_neg (by omega)]
        · intro i
          dsimp only
          by_cases ei : i = 12 * p + z
          · rw [pu_eq ⟨rfl, ei⟩, if_pos (by omega)]
          · rw [pu_ne (Or.inr ei), h4 i]
            by_cases q : 12 * p ≤ i ∧ i < 12 * p + z
            · rw [if_pos q, if_pos (by omega)]
            · rw [if_neg q, if_neg (by omega)]) pm_fuel 12 (0, pm_up σC 23 p a) (0, pm_up σM 11 p a)
    ⟨0, rfl, rfl, by omega, rfl, fun _ _ => rfl, fun _ _ => rfl, fun i => by dsimp only; rw [if_neg (by omega), pu_ne (by omega)], fun i => by dsimp only; rw [if_neg (by omega), pu_ne (by omega)]⟩ (pm_fl (by decide))
  obtain ⟨v0, σ⟩ := y
  obtain ⟨v0', τ⟩ := y'
  obtain ⟨f1, f2, f3, f4⟩ := hQ
  dsimp only at f1 f2 f3 f4
  have r1 := pm_rw_of f1
  have r2 := pm_rw_of f2
  generalize hw : σ 24 = W at r1 f3
  generalize hv : τ 12 = V at r2 f4
  subst r1 r2
  have d1 : (pm_rw (pm_up σC 23 p a) 24 W) 22 3 = p := hp
  have d2 : (pm_rw (pm_up σM 11 p a) 12 V) 0 16 = p := u1.symm.trans hp
  rw [pm_gt (show 0 ≤ (p : Int) ∧ (p : Int) < 4 by omega), pm_gt (show 0 ≤ (p : Int) ∧ (p : Int) < 4 by omega), e1, e2]
  simp only [Option.bind_some, d1, d2]
  refine pp_ret rfl ?_
  obtain ⟨p1, p2, p3, p4, p5, p6, p7, p8, p9, p10, p11⟩ := id t4
  obtain ⟨v1, v2, v3⟩ := id t5
  obtain ⟨k1, k2, k3, k4, k5, k6, k7⟩ := id hmr
  have hpv : ∀ v, v < 3 → 0 < σC 40 v → 0 ≤ σC 38 v ∧ σC 38 v < p := by
    intro v hv hb
    obtain ⟨g1, -, ⟨-, -, -, g2⟩, -⟩ := v1 v hv
    have g1' : σC 38 v = -9 ∧ σM 14 v = -1 ∨ σC 38 v = σM 14 v ∧ 0 ≤ σC 38 v ∧ σC 38 v < σC 22 3 := g1
    have g2' : σC 38 v = -9 → σC 40 v = 0 := g2
    rcases g1' with g | g
    · have := g2' g.1; omega
    · omega
  refine ⟨hrf, hrg, hmo, hor, hol, hwe, ⟨t1, t2, ⟨rfl, ?_, ?_, ?_, ?_, u6⟩, ⟨p1, p2, p3, p4, p5, p6, p7, p8, ?_, p10, p11⟩, ⟨?_, v2, v3⟩, t6⟩, ⟨?_, k2, k3, k4, ?_, ?_, k7⟩, htr⟩
  · show (0 : Int) ≤ p + 1
    omega
  · show (p : Int) + 1 ≤ 4
    omega
  · intro i hi
    have hi' : (i : Int) < p + 1 := hi
    show (pm_up σC 23 p a) 23 i = (pm_up σM 11 p a) 11 i ∧ 1 ≤ (pm_up σC 23 p a) 23 i ∧ (pm_up σC 23 p a) 23 i ≤ 8
    by_cases ei : i = p
    · rw [pu_eq ⟨rfl, ei⟩, pu_eq ⟨rfl, ei⟩]
      exact ⟨rfl, c1.1, c1.2⟩
    · rw [pu_ne (Or.inr ei), pu_ne (Or.inr ei)]
      exact u4 i (by omega)
  · intro i hi
    show 0 ≤ W i ∧ W i ≤ 99
    rw [f3 i]
    split
    · decide
    · exact u5 i hi
  · intro i hi
    obtain ⟨⟨g1, g2, g3⟩, g4⟩ := p9 i hi
    refine ⟨⟨g1, g2, ?_⟩, g4⟩
    have g3' : σC 30 i < σC 22 3 := g3
    show σC 30 i < p + 1
    omega
  · intro v hv
    obtain ⟨g1, g2⟩ := v1 v hv
    refine ⟨?_, g2⟩
    have g1' : σC 38 v = -9 ∧ σM 14 v = -1 ∨ σC 38 v = σM 14 v ∧ 0 ≤ σC 38 v ∧ σC 38 v < σC 22 3 := g1
    show σC 38 v = -9 ∧ σM 14 v = -1 ∨ σC 38 v = σM 14 v ∧ 0 ≤ σC 38 v ∧ σC 38 v < p + 1
    omega
  · intro i hi
    show W i = V i ∧ 0 ≤ W i ∧ W i ≤ 99
    rw [f3 i, f4 i]
    split
    · decide
    · exact k1 i hi
  · intro v q hv hq hb hk w hw2
    have hb' : 0 < σC 40 v := hb
    obtain ⟨z1, z2⟩ := hpv v hv hb'
    have z := k5 v q hv hq hb hk w hw2
    show σC 42 (12 * v + 6 * q + w) = W (12 * (σC 38 v).toNat + 6 * q + w)
    rw [f3, if_neg (by omega)]
    exact z
  · intro v i w hv hi hw2
    have hb' : (i : Int) < σC 40 v := hi
    obtain ⟨z1, z2⟩ := hpv v hv (by omega)
    have z := k6 v i w hv hi hw2
    show σM 23 (6 * (60 * v + i) + w) = if ((i / 2 : Nat) : Int) < k_E (σC 25 (2 * (σC 38 v).toNat + i % 2)) (k_n (σC 40 v) (i % 2)) then σC 42 (12 * v + 6 * (i % 2) + w) else W (12 * (σC 38 v).toNat + 6 * (i % 2) + w)
    rw [f3, if_neg (show ¬ (12 * p ≤ 12 * (σC 38 v).toNat + 6 * (i % 2) + w ∧ _) by omega)]
    exact z
