/-! ===== how many posts are in a state; count ===== -/
def c_n (f : Nat → Int) (s : Int) : Nat → Int
  | 0 => 0
  | n + 1 => c_n f s n + (if f n = s then 1 else 0)
theorem c_n_s (f : Nat → Int) (s : Int) (n : Nat) : c_n f s (n + 1) = c_n f s n + (if f n = s then 1 else 0) := rfl
theorem c_n_b (f : Nat → Int) (s : Int) : ∀ n : Nat, 0 ≤ c_n f s n ∧ c_n f s n ≤ n := by
  intro n
  induction n with
  | zero => exact ⟨Int.le_refl _, Int.le_refl _⟩
  | succ n ih =>
    rw [c_n_s]
    split <;> omega
set_option maxHeartbeats 4000000 in
theorem e_inS {σM : pm_M} {s : Int} {f : Nat → Int} {N : Nat} (hN : σM 25 752 = N) (hN8 : N ≤ 80) (hs : 0 ≤ s ∧ s ≤ 3) (hf : ∀ i, i < N → σM 25 (111 + 8 * i) = f i ∧ 0 ≤ f i ∧ f i ≤ 3) : fX12_inState s σM = some (c_n f s N) := by
  unfold fX12_inState
  have hN' : σM 25 (Int.toNat 752) = N := hN
  obtain ⟨y, e1, hQ⟩ := pm_it_ok (f := fun a : Int × Int => bdX12_inState_4 s σM a.1 a.2)
    (fun a => ∃ z : Nat, a.2 = z ∧ z ≤ N ∧ a.1 = c_n f s z) (fun y => y.1 = c_n f s N) (fun a => N - a.2.toNat) (by
      rintro ⟨k, z0⟩ ⟨z, hz, hle, hk⟩
      dsimp only at hz hk ⊢
      subst hz hk
      by_cases c : z = N
      · subst c
        refine Or.inl ⟨(c_n f s z, (z : Int)), ?_, rfl⟩
        unfold bdX12_inState_4
        simp (disch := omega) only [hN', wr_eq, if_pos, if_true]
      · obtain ⟨f1, f2, f3⟩ := hf z (by omega)
        have i1 : Int.toNat (111 + 8 * (z : Int) + 0) = 111 + 8 * z := by omega
        by_cases c1 : f z = s
        · refine Or.inr ⟨(c_n f s z + 1, (z : Int) + 1), ?_, ⟨z + 1, by simp, by omega, by dsimp only; rw [c_n_s, if_pos c1]⟩, by simp; omega⟩
          unfold bdX12_inState_4 fX12_post
          simp (disch := omega) only [hN', wr_eq, if_pos, if_neg, if_true, if_false, pm_gt, i1, f1, Option.bind_some]
        · refine Or.inr ⟨(c_n f s z + 0, (z : Int) + 1), ?_, ⟨z + 1, by simp, by omega, by dsimp only; rw [c_n_s, if_neg c1]⟩, by simp; omega⟩
          unfold bdX12_inState_4 fX12_post
          simp (disch := omega) only [hN', wr_eq, if_pos, if_neg, if_true, if_false, pm_gt, i1, f1, Option.bind_some]) pm_fuel (0, 0) ⟨0, rfl, by omega, rfl⟩ (pm_fl (by show N - Int.toNat 0 < 100000; omega))
  rw [e1, Option.bind_some, hQ]
section PS
variable {b : Nat} {σC σM : pm_M}
theorem p_st (hP : T_pos b σC σM) {i : Nat} (hi : (i : Int) < σC (b + 11) 8) : (((i : Int) < σC (b + 11) 10 ∧ (σM 25 (111 + 8 * i) = 2 ∨ σM 25 (111 + 8 * i) = 3)) ∨ (σC (b + 11) 10 ≤ i ∧ (i : Int) < σC (b + 11) 9 ∧ σM 25 (111 + 8 * i) = 1) ∨ (σC (b + 11) 9 ≤ i ∧ σM 25 (111 + 8 * i) = 0)) := by
  obtain ⟨p1, p2, p3, p4, p5, p6, p7, p8, p9, p10, p11⟩ := hP
  obtain ⟨-, -, -, -, -, -, ⟨g1, g2⟩, s1⟩ := p9 i hi
  rw [s1]
  by_cases c1 : σC (b + 21) i = -9
  · rw [if_neg (fun q => q c1)]
    by_cases c2 : (i : Int) < σC (b + 11) 10
    · rw [if_pos c2]; exact Or.inl ⟨c2, Or.inl rfl⟩
    · rw [if_neg c2]
      by_cases c3 : (i : Int) < σC (b + 11) 9
      · rw [if_pos c3]; exact Or.inr (Or.inl ⟨by omega, c3, rfl⟩)
      · rw [if_neg c3]; exact Or.inr (Or.inr ⟨by omega, rfl⟩)
  · rw [if_pos c1]
    exact Or.inl ⟨by omega, Or.inr rfl⟩
theorem e_hang (hP : T_pos b σC σM) : fX12_inState 1 σM = some (σC (b + 11) 9 - σC (b + 11) 10) := by
  obtain ⟨p1, p2, p3, p4, p5, p6, p7, p8, p9, p10, p11⟩ := id hP
  obtain ⟨N, hN⟩ := Int.eq_ofNat_of_zero_le (show 0 ≤ σC (b + 11) 8 by omega)
  rw [e_inS (f := fun i => σM 25 (111 + 8 * i)) (N := N) (by omega) (by omega) (by decide) (fun i hi => ⟨rfl, by have := p_st hP (i := i) (by omega); omega⟩)]
  have key : ∀ n : Nat, n ≤ N → c_n (fun i => σM 25 (111 + 8 * i)) 1 n = if (n : Int) ≤ σC (b + 11) 10 then 0 else if (n : Int) ≤ σC (b + 11) 9 then n - σC (b + 11) 10 else σC (b + 11) 9 - σC (b + 11) 10 := by
    intro n
    induction n with
    | zero => intro _; rw [if_pos (by omega)]; rfl
    | succ n ih =>
      intro hn
      have q := p_st hP (i := n) (by omega)
      rw [c_n_s, ih (by omega)]
      rcases q with ⟨q1, q2⟩ | ⟨q1, q2, q3⟩ | ⟨q1, q2⟩
      · rw [if_neg (show ¬ σM 25 (111 + 8 * n) = 1 by omega)]
        simp (disch := omega) only [if_pos, if_neg]
        rfl
      · rw [if_pos (show σM 25 (111 + 8 * n) = 1 by omega)]
        by_cases c : (n : Int) ≤ σC (b + 11) 10
        · simp (disch := omega) only [if_pos, if_neg]
          omega
        · simp (disch := omega) only [if_pos, if_neg]
          omega
      · rw [if_neg (show ¬ σM 25 (111 + 8 * n) = 1 by omega)]
        by_cases c : (n : Int) ≤ σC (b + 11) 10
        · simp (disch := omega) only [if_pos, if_neg]
          omega
        · by_cases c2 : (n : Int) ≤ σC (b + 11) 9
          · simp (disch := omega) only [if_pos, if_neg]
            omega
          · simp (disch := omega) only [if_pos, if_neg]
            omega
  rw [key N (Nat.le_refl _)]
  congr 1
  by_cases c1 : (N : Int) ≤ σC (b + 11) 10
  · rw [if_pos c1]; omega
  · rw [if_neg c1]
    by_cases c2 : (N : Int) ≤ σC (b + 11) 9
    · rw [if_pos c2]; omega
    · rw [if_neg c2]
theorem e_dried (hP : T_pos b σC σM) : fX12_dried σM = some (σC (b + 11) 10) := by
  obtain ⟨p1, p2, p3, p4, p5, p6, p7, p8, p9, p10, p11⟩ := id hP
  obtain ⟨N, hN⟩ := Int.eq_ofNat_of_zero_le (show 0 ≤ σC (b + 11) 8 by omega)
  unfold fX12_dried
  rw [e_inS (s := 2) (f := fun i => σM 25 (111 + 8 * i)) (N := N) (by omega) (by omega) (by decide) (fun i hi => ⟨rfl, by have := p_st hP (i := i) (by omega); omega⟩), e_inS (s := 3) (f := fun i => σM 25 (111 + 8 * i)) (N := N) (by omega) (by omega) (by decide) (fun i hi => ⟨rfl, by have := p_st hP (i := i) (by omega); omega⟩), Option.bind_some, Option.bind_some]
  have key : ∀ n : Nat, n ≤ N → c_n (fun i => σM 25 (111 + 8 * i)) 2 n + c_n (fun i => σM 25 (111 + 8 * i)) 3 n = if (n : Int) ≤ σC (b + 11) 10 then (n : Int) else σC (b + 11) 10 := by
    intro n
    induction n with
    | zero => intro _; rw [if_pos (by omega)]; rfl
    | succ n ih =>
      intro hn
      have q := p_st hP (i := n) (by omega)
      have ih := ih (by omega)
      rw [c_n_s, c_n_s]
      by_cases c : (n : Int) < σC (b + 11) 10
      · rw [if_pos (show (n : Int) ≤ σC (b + 11) 10 by omega)] at ih
        rw [if_pos (show ((n + 1 : Nat) : Int) ≤ σC (b + 11) 10 by omega)]
        have q2 : σM 25 (111 + 8 * n) = 2 ∨ σM 25 (111 + 8 * n) = 3 := by omega
        rcases q2 with q2 | q2
        · rw [if_pos q2, if_neg (show ¬ σM 25 (111 + 8 * n) = 3 by omega)]; omega
        · rw [if_neg (show ¬ σM 25 (111 + 8 * n) = 2 by omega), if_pos q2]; omega
      · rw [if_neg (show ¬ σM 25 (111 + 8 * n) = 2 by omega), if_neg (show ¬ σM 25 (111 + 8 * n) = 3 by omega), if_neg (show ¬ ((n + 1 : Nat) : Int) ≤ σC (b + 11) 10 by omega)]
        by_cases c2 : (n : Int) ≤ σC (b + 11) 10
        · rw [if_pos c2] at ih; omega
        · rw [if_neg c2] at ih; omega
  rw [key N (Nat.le_refl _)]
  congr 1
  by_cases c1 : (N : Int) ≤ σC (b + 11) 10
  · rw [if_pos c1]; omega
  · rw [if_neg c1]
end PS
theorem cnt_isK {a k : Int} {σ : pm_M} (hw : wr a = a) (hk : 0 ≤ k ∧ k ≤ 100) : fX12_isKind (a - k) σ = some (if k ≤ a ∧ a < k + 9 then 1 else 0) := by
  have hr := wr_rng a
  rw [hw] at hr
  have key : fX12_isIn (a - k) 9 = some (if k ≤ a ∧ a < k + 9 then 1 else 0) := by
    unfold fX12_isIn
    by_cases hm : a - k < -2147483648
    · have e : wr (a - k) = a - k + 4294967296 := by
        unfold wr
        rw [Int32.toInt_ofInt]
        have e : (Int32.size : Int) = 4294967296 := rfl
        have e2 : (a - k) % 4294967296 = a - k + 4294967296 := by omega
        unfold Int.bmod
        simp only [e, e2]
        rw [if_pos (by omega)]
      simp (disch := omega) only [e, wr_eq, if_neg, if_pos, if_true, if_false]
    · by_cases c : k ≤ a ∧ a < k + 9
      · simp (disch := omega) only [wr_eq, if_neg, if_pos, if_true, if_false]
      · by_cases c2 : a - k < 0
        · simp (disch := omega) only [wr_eq, if_neg, if_pos, if_true, if_false]
        · simp (disch := omega) only [wr_eq, if_neg, if_pos, if_true, if_false]
  unfold fX12_isKind
  rw [key, Option.bind_some]
  exact pm_gt (by split <;> simp)
set_option maxHeartbeats 4000000 in
theorem s_count : sp_count pm_R := by
  intro x1 σC σM h
  have w1 := wr_to x1
  generalize x1.toInt = a at w1 ⊢
  obtain ⟨hrf, ⟨h1, h2, h3, h4⟩, ⟨m1, m2, m3, m4, m5, m6⟩, ⟨o1, o2, o3, o4⟩, hol, hwe, ⟨⟨n1, n2, n3, n4⟩, t2, t3, t4, t5, t6⟩, hmr, htr⟩ := id h
  have eh := e_hang t4
  simp only [Nat.reduceAdd] at eh
  have hr := wr_rng a
  rw [w1] at hr
  by_cases c1 : 11 ≤ a ∧ a ≤ 16
  · refine ⟨σC 93 (a - 10).toNat, σM 1 (a - 10).toNat, ?_, ?_, by rw [hrf _ (by omega)]⟩
    · unfold fX11_count
      simp (disch := omega) only [wr_eq, if_neg, if_pos, pm_gt]
    · unfold fX12_count
      simp (disch := omega) only [wr_eq, if_neg, if_pos, pm_gt]
  have k2 := cnt_isK (σ := σM) (k := 20) w1 (by decide)
  have k3 := cnt_isK (σ := σM) (k := 30) w1 (by decide)
  have C0 : fX11_count a σC = jnX11_count_22 a σC := by
    unfold fX11_count
    by_cases c : a < 11
    · simp (disch := omega) only [wr_eq, if_pos]
    · simp (disch := omega) only [wr_eq, if_pos, if_neg]
  have M0 : fX12_count a σM = jnX12_count_22 a σM := by
    unfold fX12_count
    by_cases c : a ≤ 10
    · simp (disch := omega) only [wr_eq, if_pos, if_neg]
    · simp (disch := omega) only [wr_eq, if_pos, if_neg]
  rw [C0, M0]
  unfold jnX12_count_22
  rw [k2, k3]
  by_cases c2 : 20 ≤ a ∧ a < 29
  · refine ⟨σC 14 (a - 20).toNat, σM 6 (a - 20).toNat, ?_, ?_, by rw [(h4 _ (by omega)).1]⟩
    · unfold jnX11_count_22
      simp (disch := omega) only [wr_eq, if_neg, if_pos, pm_gt]
    · simp (disch := omega) only [wr_eq, if_neg, if_pos, if_true, if_false, pm_gt, Option.bind_some]
  have C1 : jnX11_count_22 a σC = jnX11_count_47 a σC := by
    unfold jnX11_count_22
    by_cases c : a < 20
    · simp (disch := omega) only [wr_eq, if_pos]
    · simp (disch := omega) only [wr_eq, if_pos, if_neg]
  rw [C1]
  by_cases c3 : 30 ≤ a ∧ a < 39
  · refine ⟨σC 16 (a - 30).toNat, σM 25 (96 + a - 30).toNat, ?_, ?_, ?_⟩
    · unfold jnX11_count_47
      simp (disch := omega) only [wr_eq, if_neg, if_pos, pm_gt]
    · simp (disch := omega) only [wr_eq, if_neg, if_pos, if_true, if_false, pm_gt, Option.bind_some]
    · have n4' : σC 16 (a - 30).toNat = σM 25 (96 + (a - 30).toNat) := n4 (a - 30).toNat (by omega)
      rw [n4', show (96 + a - 30).toNat = 96 + (a - 30).toNat by omega]
  have C2 : jnX11_count_47 a σC = jnX11_count_72 a σC := by
    unfold jnX11_count_47
    by_cases c : a < 30
    · simp (disch := omega) only [wr_eq, if_pos]
    · simp (disch := omega) only [wr_eq, if_pos, if_neg]
  rw [C2]
  unfold jnX11_count_72 fX6_hanging
  rw [if_neg (show ¬ (20 ≤ a ∧ a < 20 + 9) by omega), if_neg (show ¬ (30 ≤ a ∧ a < 30 + 9) by omega)]
  simp only [Option.bind_some, if_pos wr_0, w1, eh, Nat.reduceAdd]
  by_cases d : 0 ≤ a ∧ a ≤ 9
  · rcases (show a = 0 ∨ a = 1 ∨ a = 2 ∨ a = 3 ∨ a = 4 ∨ a = 5 ∨ a = 6 ∨ a = 7 ∨ a = 8 ∨ a = 9 by omega) with rfl | rfl | rfl | rfl | rfl | rfl | rfl | rfl | rfl | rfl
    · exact ⟨_, _, rfl, rfl, congrArg wr n1⟩
    · exact ⟨_, _, rfl, rfl, congrArg wr t6.1⟩
    · exact ⟨_, _, rfl, rfl, congrArg wr t3.1⟩
    · exact ⟨_, _, rfl, rfl, congrArg wr t4.1⟩
    · exact ⟨_, _, rfl, rfl, congrArg wr o1⟩
    · exact ⟨_, _, rfl, rfl, by rw [m6]⟩
    · exact ⟨_, _, rfl, rfl, congrArg wr m3⟩
    · exact ⟨_, _, rfl, rfl, congrArg wr t5.2.2⟩
    · exact ⟨_, _, rfl, rfl, congrArg wr t6.2.2.2.1⟩
    · exact ⟨_, _, rfl, rfl, rfl⟩
  · refine ⟨-9, -9, ?_, ?_, rfl⟩
    · rw [if_neg (by omega), if_neg (by omega), if_neg (by omega), if_neg (by omega), if_neg (by omega), if_neg (by omega), if_neg (by omega), if_neg (by omega), if_neg (by omega), if_neg (by omega)]
    · rw [if_neg (by omega), if_neg (by omega), if_neg (by omega), if_neg (by omega), if_neg (by omega), if_neg (by omega), if_neg (by omega), if_neg (by omega), if_neg (by omega), if_neg (by omega)]
