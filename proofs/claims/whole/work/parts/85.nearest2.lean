set_option maxHeartbeats 8000000 in
theorem n_C {σ0 σM : pm_M} {N : Nat} (hol : R_old σ0 σM) (hmr : R_mrk σ0 σM) (hN : σ0 26 8 = N) (hN8 : N ≤ 80) (hN0 : 0 < N) : ∃ σ', fX4_findNearest σ0 = some σ' ∧ (∀ c, c ≠ 89 → σ' c = σ0 c) ∧ ∃ b q : Nat, σ' 89 2 = q ∧ σ' 89 3 = ((b - 60 * q : Nat) : Int) ∧ 60 * q ≤ b ∧ b < 60 * q + 60 ∧ i_min (fun j => j < 60 * N) (vs σ0) b (σ' 89 4) := by
  unfold fX4_findNearest
  obtain ⟨y, e1, hQ⟩ := pm_it_ok (f := fun a : Int × pm_M => bdX4_findNearest_9 a.1 a.2)
    (fun a => ∃ z : Nat, a.1 = z ∧ z ≤ N ∧ (∀ c, c ≠ 89 → a.2 c = σ0 c) ∧ ((z = 0 ∧ a.2 89 4 = 1000) ∨ (0 < z ∧ ∃ b q : Nat, a.2 89 2 = q ∧ a.2 89 3 = ((b - 60 * q : Nat) : Int) ∧ 60 * q ≤ b ∧ b < 60 * q + 60 ∧ i_min (fun j => j < 60 * z) (vs σ0) b (a.2 89 4))))
    (fun y => (∀ c, c ≠ 89 → y.2 c = σ0 c) ∧ ∃ b q : Nat, y.2 89 2 = q ∧ y.2 89 3 = ((b - 60 * q : Nat) : Int) ∧ 60 * q ≤ b ∧ b < 60 * q + 60 ∧ i_min (fun j => j < 60 * N) (vs σ0) b (y.2 89 4)) (fun a => N - a.1.toNat) (by
      rintro ⟨z0, ρ⟩ ⟨z, hz, hle, h1, h2⟩
      dsimp only at hz h1 h2 ⊢
      subst hz
      have r26 : ρ 26 8 = N := by rw [h1 26 (by decide)]; exact hN
      by_cases c : z = N
      · subst c
        rcases h2 with ⟨h2, -⟩ | ⟨-, h2⟩
        · omega
        · refine Or.inl ⟨((z : Int), ρ), ?_, h1, h2⟩
          unfold bdX4_findNearest_9
          rw [r26]
          simp (disch := omega) only [wr_eq, if_pos, if_true]
      · obtain ⟨-, g1, g2⟩ := e_gs (g := 0) hmr (p := z) (by omega) (by omega) (by decide)
        obtain ⟨e, he⟩ := Int.eq_ofNat_of_zero_le g1
        obtain ⟨x, ρ', k1, k2, k3⟩ := n_post (P := z) (e := e) hol hmr hN hN8 (by omega) he h1 h2
        refine Or.inr ⟨((z : Int) + 1, ρ'), ?_, ⟨z + 1, by simp, by omega, k2, Or.inr ⟨by omega, k3⟩⟩, by simp; omega⟩
        unfold bdX4_findNearest_9
        rw [r26, k1]
        simp (disch := omega) only [wr_eq, if_neg, if_false, Option.bind_some]) pm_fuel (0, pm_up σ0 89 4 1000)
    ⟨0, rfl, by omega, fun c hc => pu_o hc, Or.inl ⟨rfl, show (pm_up σ0 89 4 1000) 89 4 = 1000 from pu_eq ⟨rfl, rfl⟩⟩⟩ (pm_fl (by show N - Int.toNat 0 < 100000; omega))
  rw [e1, Option.bind_some]
  exact ⟨y.2, rfl, hQ.1, hQ.2⟩
set_option maxHeartbeats 8000000 in
theorem n_M {σ0 σM : pm_M} {x1 : Int} {N : Nat} (hol : R_old σ0 σM) (hmr : R_mrk σ0 σM) (hN : σ0 26 8 = N) (hN8 : N ≤ 80) (hM : σM 25 (Int.toNat 752) = N) : ∃ (b' l z : Int), pm_it (fun a : Int × Int × Int => bdX12_nearest_22 x1 σM a.1 a.2.1 a.2.2) pm_fuel ((-1), 0, 0) = some (b', l, z) ∧ ((N = 0 ∧ b' = -1) ∨ (0 < N ∧ ∃ b : Nat, b' = b ∧ i_min (fun j => j < 60 * N) (vs σ0) b l)) := by
  obtain ⟨y, e1, hQ⟩ := pm_it_ok (f := fun a : Int × Int × Int => bdX12_nearest_22 x1 σM a.1 a.2.1 a.2.2)
    (fun a => ∃ z : Nat, a.2.2 = z ∧ z ≤ 60 * N ∧ ((z = 0 ∧ a.1 = -1 ∧ a.2.1 = 0) ∨ (0 < z ∧ ∃ b : Nat, a.1 = b ∧ i_min (fun j => j < z) (vs σ0) b a.2.1)))
    (fun y => ((N = 0 ∧ y.1 = -1) ∨ (0 < N ∧ ∃ b : Nat, y.1 = b ∧ i_min (fun j => j < 60 * N) (vs σ0) b y.2.1))) (fun a => 60 * N - a.2.2.toNat) (by
      rintro ⟨k, l, z0⟩ ⟨z, hz, hle, h1⟩
      dsimp only at hz h1 ⊢
      subst hz
      by_cases c : z = 60 * N
      · refine Or.inl ⟨(k, l, (z : Int)), ?_, ?_⟩
        · unfold bdX12_nearest_22
          rw [hM]
          simp (disch := omega) only [wr_eq, if_pos, if_true]
        · dsimp only
          rcases h1 with ⟨a1, a2, a3⟩ | ⟨a1, a2⟩
          · exact Or.inl ⟨by omega, a2⟩
          · rw [c] at a2
            exact Or.inr ⟨by omega, a2⟩
      · have hp : ((z / 60 : Nat) : Int) < σ0 26 8 := by omega
        obtain ⟨x, ex⟩ := e_nnM (y1 := x1) (y2 := k) (y3 := l) (p := z / 60) (i := z % 60) hol hmr hp (by omega) (by omega)
        rw [show 60 * (z / 60) + z % 60 = z by omega] at ex
        have vb := nn_b hol hmr (p := z / 60) (i := z % 60) hp (by omega)
        have ev : nn σ0 (z / 60) (gi σ0 (z / 60) (z % 60)) = vs σ0 z := rfl
        rw [ev] at ex vb
        have allb : ∀ j, j < 60 * N → 0 ≤ vs σ0 j ∧ vs σ0 j ≤ 594 := fun j hj => nn_b hol hmr (p := j / 60) (i := j % 60) (by omega) (by omega)
        rcases h1 with ⟨a1, a2, a3⟩ | ⟨a1, b, a2, a3⟩
        · refine Or.inr ⟨((z : Int), vs σ0 z, (z : Int) + 1), ?_, ⟨z + 1, by simp, by omega, Or.inr ⟨by omega, z, rfl, ?_, rfl, fun j hj => ?_⟩⟩, by simp; omega⟩
          · unfold bdX12_nearest_22
            rw [hM, ex]
            simp (disch := omega) only [wr_eq, if_neg, if_pos, if_true, if_false, Option.bind_some]
          · show z < z + 1
            omega
          · have ej : j = z := by dsimp only at hj; omega
            subst ej
            exact ⟨Int.le_refl _, fun h => by omega⟩
        · have bl : b < z := a3.1
          have lb := allb b (by omega)
          have el := a3.2.1
          by_cases c2 : vs σ0 z < l
          · refine Or.inr ⟨((z : Int), vs σ0 z, (z : Int) + 1), ?_, ⟨z + 1, by simp, by omega, Or.inr ⟨by omega, z, rfl, ?_, rfl, fun j hj => ?_⟩⟩, by simp; omega⟩
            · unfold bdX12_nearest_22
              rw [hM, ex]
              simp (disch := omega) only [wr_eq, if_neg, if_pos, if_true, if_false, Option.bind_some]
            · show z < z + 1
              omega
            · by_cases ej : j = z
              · subst ej
                exact ⟨Int.le_refl _, fun h => by omega⟩
              · have := (a3.2.2 j (by dsimp only at hj ⊢; omega)).1
                exact ⟨by dsimp only; omega, fun _ => by dsimp only; omega⟩
          · refine Or.inr ⟨(k, l, (z : Int) + 1), ?_, ⟨z + 1, by simp, by omega, Or.inr ⟨by omega, b, a2, ?_, el, fun j hj => ?_⟩⟩, by simp; omega⟩
            · unfold bdX12_nearest_22
              rw [hM, ex]
              simp (disch := omega) only [wr_eq, if_neg, if_false, Option.bind_some]
            · show b < z + 1
              omega
            · by_cases ej : j = z
              · subst ej
                exact ⟨by dsimp only; omega, fun h => by omega⟩
              · exact a3.2.2 j (by dsimp only at hj ⊢; omega)) pm_fuel (-1, 0, 0) ⟨0, rfl, by omega, Or.inl ⟨rfl, rfl, rfl⟩⟩ (pm_fl (by show 60 * N - Int.toNat 0 < 100000; omega))
  exact ⟨y.1, y.2.1, y.2.2, e1, hQ⟩
set_option maxHeartbeats 8000000 in
theorem s_nearest : sp_nearest pm_R := by
  intro x1 σC σM h
  show pp_ pm_R _ _
  have w1 := wr_to x1
  generalize x1.toInt = r at w1 ⊢
  obtain ⟨hrf, hrg, hmo, hor, hol, hwe, ⟨t1, t2, t3, t4, t5, t6⟩, hmr, htr⟩ := id h
  obtain ⟨p1, p2, p3, p4, p5, p6, p7, p8, p9, p10, p11⟩ := id t4
  simp only [Nat.reduceAdd] at p1 p2 p3 p4 p5
  obtain ⟨N, hN⟩ := Int.eq_ofNat_of_zero_le (show 0 ≤ σC 26 8 by omega)
  have p1' : σM 25 (Int.toNat 752) = N := by rw [← hN]; exact p1.symm
  unfold fX11_nearest fX12_nearest
  rw [e_num w1 (wr_eq (by decide) (by decide)), e_in w1 (wr_eq (by decide) (by decide)), w1]
  refine pp_b (fun c1 => ?_) (fun _ => pp_ref h (by decide))
  obtain ⟨b', l, z, k1, k2⟩ := n_M (x1 := r) hol hmr hN (by omega) p1'
  rw [k1, Option.bind_some, hN, wr_eq (x := (N : Int)) (by omega) (by omega)]
  dsimp only
  rcases k2 with ⟨k2, k3⟩ | ⟨k2, b, k3, k4⟩
  · subst k3
    rw [if_pos (show (N : Int) = 0 by omega), if_neg (by decide)]
    exact pp_ret rfl h
  · subst k3
    obtain ⟨σ', e1, e2, b2, q, f1, f2, f3, f4, f5⟩ := n_C hol hmr hN (by omega) k2
    obtain ⟨u1, u2⟩ := i_min_u k4 f5
    subst u1 u2
    have hb : b < 60 * N := k4.1
    have R' : pm_R σ' σM := by
      have e3 := pm_rw_of e2
      generalize σ' 89 = W at e3
      rw [e3]
      exact h
    have eq1 : Int.tdiv (b : Int) 60 = (q : Int) := by
      rw [Int.tdiv_eq_ediv_of_nonneg (by omega)]; omega
    have eq2 : Int.tmod (b : Int) 60 = ((b - 60 * q : Nat) : Int) := by
      rw [Int.tmod_eq_emod_of_nonneg (by omega)]; omega
    have eq3 : Int.tmod (b : Int) 2 = ((b % 2 : Nat) : Int) := by
      rw [Int.tmod_eq_emod_of_nonneg (by omega)]; omega
    have eq4 : Int.tmod ((b - 60 * q : Nat) : Int) 2 = ((b % 2 : Nat) : Int) := by
      rw [Int.tmod_eq_emod_of_nonneg (by omega)]; omega
    have P := p9 q (by show (q : Int) < σC 26 8; omega)
    simp only [Nat.reduceAdd] at P
    obtain ⟨⟨a1, a2, a3⟩, -, ⟨a4, a5, a6⟩, -⟩ := P
    have i1 : Int.toNat (111 + 8 * (q : Int) + 1) = 112 + 8 * q := by omega
    have i3 : Int.toNat (111 + 8 * (q : Int) + 3) = 114 + 8 * q := by omega
    rw [e1, Option.bind_some, if_neg (show ¬ (N : Int) = 0 by omega), wr_eq (x := (b : Int)) (by omega) (by omega), if_pos (show 0 ≤ (b : Int) by omega), eq1, eq2, f1, f2]
    unfold fX12_mouldOfSheet fX12_post
    rcases (show r = 0 ∨ r = 1 ∨ r = 2 ∨ r = 3 ∨ r = 4 by omega) with rfl | rfl | rfl | rfl | rfl
    · rw [if_pos rfl, if_pos rfl]
      exact pp_ret rfl R'
    · rw [if_neg (by decide), if_pos rfl, if_neg (by decide), if_pos rfl]
      exact pp_ret rfl R'
    · rw [if_neg (by decide), if_neg (by decide), if_pos rfl, if_neg (by decide), if_neg (by decide), if_pos rfl]
      have r30 : σ' 30 = σC 30 := e2 30 (by decide)
      simp (disch := omega) only [wr_eq, pm_gt, eq1, eq3, eq4, i1, Option.bind_some, r30, Int.toNat_natCast, ← a1]
      exact pp_ret rfl R'
    · rw [if_neg (by decide), if_neg (by decide), if_neg (by decide), if_pos rfl, if_neg (by decide), if_neg (by decide), if_neg (by decide), if_pos rfl]
      exact pp_ret rfl R'
    · rw [if_neg (by decide), if_neg (by decide), if_neg (by decide), if_neg (by decide), if_neg (by decide), if_neg (by decide), if_neg (by decide), if_neg (by decide)]
      have r32 : σ' 32 = σC 32 := e2 32 (by decide)
      simp (disch := omega) only [wr_eq, pm_gt, i3, Option.bind_some, r32, Int.toNat_natCast, ← a4]
      exact pp_ret rfl R'
