/-! ===== an hour ===== -/
def H_S (b : Nat) (σC σM : pm_M) : Prop := R_tim b σC σM ∧ V_M b σC σM ∧ R_wea σC σM ∧ R_rag σC σM
def H_F (b : Nat) (σC0 σM0 σC σM : pm_M) : Prop := (∀ c, (c < b ∨ b + 32 < c) → σC c = σC0 c) ∧ (∀ c, c ≠ 25 → c ≠ 12 → c ≠ 13 → c ≠ 22 → c ≠ 23 → σM c = σM0 c) ∧ (σM0 0 32 = 1 → ∀ c, c ≠ 25 → σM c = σM0 c)
section HS
variable {b : Nat} {σC σM σC' σM' σC2 σM2 : pm_M}
theorem H_F_refl : H_F b σC σM σC σM := ⟨fun _ _ => rfl, fun _ _ _ _ _ _ => rfl, fun _ _ _ => rfl⟩
theorem H_F_trans (h1 : H_F b σC σM σC' σM') (h2 : H_F b σC' σM' σC2 σM2) : H_F b σC σM σC2 σM2 := by
  obtain ⟨a1, a2, a3⟩ := h1
  obtain ⟨b1, b2, b3⟩ := h2
  refine ⟨fun c q => by rw [b1 c q, a1 c q], fun c q1 q2 q3 q4 q5 => by rw [b2 c q1 q2 q3 q4 q5, a2 c q1 q2 q3 q4 q5], fun h c hc => ?_⟩
  rw [b3 (by rw [a3 h 0 (by decide)]; exact h) c hc, a3 h c hc]
theorem V_M_cg (h : V_M b σC σM) (c : ∀ k, (k = 9 ∨ k = 10 ∨ k = 13 ∨ k = 14 ∨ k = 23 ∨ k = 25 ∨ k = 27) → σC' (b + k) = σC (b + k)) (c11 : σC' (b + 11) 8 = σC (b + 11) 8) (m : ∀ c, c ≠ 25 → σM' c = σM c) : V_M b σC' σM' := by
  rcases h with ⟨rfl, h1, h2, h3⟩ | h
  · have e24 : σC' 24 = σC 24 := c 9 (by omega)
    have e25 : σC' 25 = σC 25 := c 10 (by omega)
    have e28 : σC' 28 = σC 28 := c 13 (by omega)
    have e29 : σC' 29 = σC 29 := c 14 (by omega)
    have e38 : σC' 38 = σC 38 := c 23 (by omega)
    have e40 : σC' 40 = σC 40 := c 25 (by omega)
    have e42 : σC' 42 = σC 42 := c 27 (by omega)
    have e26 : σC' 26 8 = σC 26 8 := c11
    refine Or.inl ⟨rfl, by rw [m 0 (by decide)]; exact h1, ?_, by rw [e42]; exact h3⟩
    unfold R_mrk at h2 ⊢
    rw [e24, e25, e28, e29, e38, e40, e42, e26, m 12 (by decide), m 13 (by decide), m 22 (by decide), m 23 (by decide)]
    exact h2
  · exact Or.inr (by rw [m 0 (by decide)]; exact h)
theorem R_wea_cg (h : R_wea σC σM) (hb : 15 ≤ b) (f : H_F b σC σM σC' σM') : R_wea σC' σM' := by
  unfold R_wea at h ⊢
  rw [f.1 3 (by omega), f.1 4 (by omega), f.1 5 (by omega), f.1 7 (by omega), f.1 8 (by omega), f.1 9 (by omega), f.2.1 2 (by decide) (by decide) (by decide) (by decide) (by decide)]
  exact h
theorem R_rag_cg (h : R_rag σC σM) (hb : 15 ≤ b) (f : H_F b σC σM σC' σM') : R_rag σC' σM' := by
  unfold R_rag at h ⊢
  rw [f.1 11 (by omega), f.1 12 (by omega), f.1 13 (by omega), f.1 14 (by omega), f.2.1 3 (by decide) (by decide) (by decide) (by decide) (by decide), f.2.1 4 (by decide) (by decide) (by decide) (by decide) (by decide), f.2.1 5 (by decide) (by decide) (by decide) (by decide) (by decide), f.2.1 6 (by decide) (by decide) (by decide) (by decide) (by decide)]
  exact h
theorem S_pos (hb : 15 ≤ b) (h : H_S b σC σM) (t : T_pos b σC' σM') (f : ∀ c, c ≠ b + 11 → (c < b + 15 ∨ b + 21 < c) → σC' c = σC c) (m : ∀ c, c ≠ 25 → σM' c = σM c) (m25 : ∀ j, (j < 111 ∨ 751 ≤ j) → σM' 25 j = σM 25 j) (c8 : σC' (b + 11) 8 = σC (b + 11) 8) : H_S b σC' σM' ∧ H_F b σC σM σC' σM' := by
  obtain ⟨⟨t1, t2, t3, t4, t5, t6⟩, vm, we, ra⟩ := h
  have F : H_F b σC σM σC' σM' := ⟨fun c hc => f c (by omega) (by omega), fun c h1 _ _ _ _ => m c h1, fun _ c hc => m c hc⟩
  have e0 : σC' b = σC b := f b (by omega) (by omega)
  have e7 : σC' (b + 7) = σC (b + 7) := f _ (by omega) (by omega)
  refine ⟨⟨⟨?_, ?_, ?_, t, ?_, ?_⟩, ?_, R_wea_cg we hb F, R_rag_cg ra hb F⟩, F⟩
  · exact T_num_cg t1 (by rw [e0]) (fun i _ => by rw [f _ (by omega) (by omega)]) (m25 _ (by omega)) (fun j _ _ => m25 j (by omega))
  · exact T_bea_cg t2 (fun k _ _ => f _ (by omega) (by omega)) (fun j _ _ => m25 j (by omega))
  · exact T_mou_cg t3 (by rw [e0]) (fun k _ _ => f _ (by omega) (by omega)) (by rw [m 0 (by decide)]) (m 11 (by decide))
  · exact T_vat_cg t5 (by rw [e7]) (fun k _ _ => f _ (by omega) (by omega)) (m 14 (by decide)) (m 15 (by decide)) (m25 _ (by omega)) (fun j _ _ => m25 j (by omega))
  · exact T_hea_cg t6 (by rw [e0]) (fun k _ _ => f _ (by omega) (by omega)) (by rw [m 0 (by decide)]) (m 9 (by decide)) (m 10 (by decide)) (m25 _ (by omega)) (fun j _ => m25 j (by omega))
  · exact V_M_cg vm (fun k hk => f _ (by omega) (by omega)) c8 m
theorem S_hea (hb : 15 ≤ b) (h : H_S b σC σM) (t : T_hea b σC' σM') (f : ∀ c, c ≠ b + 28 → c ≠ b + 30 → c ≠ b + 32 → σC' c = σC c) (m : ∀ c, c ≠ 25 → σM' c = σM c) (m25 : ∀ j, 80 ≤ j → j ≠ 754 → σM' 25 j = σM 25 j) : H_S b σC' σM' ∧ H_F b σC σM σC' σM' := by
  obtain ⟨⟨t1, t2, t3, t4, t5, t6⟩, vm, we, ra⟩ := h
  have F : H_F b σC σM σC' σM' := ⟨fun c hc => f c (by omega) (by omega) (by omega), fun c h1 _ _ _ _ => m c h1, fun _ c hc => m c hc⟩
  have e0 : σC' b = σC b := f b (by omega) (by omega) (by omega)
  have e7 : σC' (b + 7) = σC (b + 7) := f _ (by omega) (by omega) (by omega)
  have e11 : σC' (b + 11) = σC (b + 11) := f _ (by omega) (by omega) (by omega)
  refine ⟨⟨⟨?_, ?_, ?_, ?_, ?_, t⟩, ?_, R_wea_cg we hb F, R_rag_cg ra hb F⟩, F⟩
  · exact T_num_cg t1 (by rw [e0]) (fun i _ => by rw [f _ (by omega) (by omega) (by omega)]) (m25 _ (by omega) (by omega)) (fun j _ _ => m25 j (by omega) (by omega))
  · exact T_bea_cg t2 (fun k _ _ => f _ (by omega) (by omega) (by omega)) (fun j _ _ => m25 j (by omega) (by omega))
  · exact T_mou_cg t3 (by rw [e0]) (fun k _ _ => f _ (by omega) (by omega) (by omega)) (by rw [m 0 (by decide)]) (m 11 (by decide))
  · exact T_pos_cg t4 (by rw [e0]) (by rw [e7]) e11 (fun k _ _ => f _ (by omega) (by omega) (by omega)) (by rw [m 0 (by decide)]) (m25 _ (by omega) (by omega)) (fun j _ _ => m25 j (by omega) (by omega))
  · exact T_vat_cg t5 (by rw [e7]) (fun k _ _ => f _ (by omega) (by omega) (by omega)) (m 14 (by decide)) (m 15 (by decide)) (m25 _ (by omega) (by omega)) (fun j _ _ => m25 j (by omega) (by omega))
  · exact V_M_cg vm (fun k hk => f _ (by omega) (by omega) (by omega)) (by rw [e11]) m
theorem S_bea (hb : 15 ≤ b) (h : H_S b σC σM) (tn : T_num b σC' σM') (t : T_bea b σC' σM') (f : ∀ c, c ≠ b + 1 → c ≠ b + 3 → c ≠ b + 5 → c ≠ b + 6 → σC' c = σC c) (m : ∀ c, c ≠ 25 → σM' c = σM c) (m25 : ∀ j, (j < 80 ∨ 105 ≤ j) → σM' 25 j = σM 25 j) : H_S b σC' σM' ∧ H_F b σC σM σC' σM' := by
  obtain ⟨⟨t1, t2, t3, t4, t5, t6⟩, vm, we, ra⟩ := h
  have F : H_F b σC σM σC' σM' := ⟨fun c hc => f c (by omega) (by omega) (by omega) (by omega), fun c h1 _ _ _ _ => m c h1, fun _ c hc => m c hc⟩
  have e0 : σC' b = σC b := f b (by omega) (by omega) (by omega) (by omega)
  have e7 : σC' (b + 7) = σC (b + 7) := f _ (by omega) (by omega) (by omega) (by omega)
  have e11 : σC' (b + 11) = σC (b + 11) := f _ (by omega) (by omega) (by omega) (by omega)
  refine ⟨⟨⟨tn, t, ?_, ?_, ?_, ?_⟩, ?_, R_wea_cg we hb F, R_rag_cg ra hb F⟩, F⟩
  · exact T_mou_cg t3 (by rw [e0]) (fun k _ _ => f _ (by omega) (by omega) (by omega) (by omega)) (by rw [m 0 (by decide)]) (m 11 (by decide))
  · exact T_pos_cg t4 (by rw [e0]) (by rw [e7]) e11 (fun k _ _ => f _ (by omega) (by omega) (by omega) (by omega)) (by rw [m 0 (by decide)]) (m25 _ (by omega)) (fun j _ _ => m25 j (by omega))
  · exact T_vat_cg t5 (by rw [e7]) (fun k _ _ => f _ (by omega) (by omega) (by omega) (by omega)) (m 14 (by decide)) (m 15 (by decide)) (m25 _ (by omega)) (fun j _ _ => m25 j (by omega))
  · exact T_hea_cg t6 (by rw [e0]) (fun k _ _ => f _ (by omega) (by omega) (by omega) (by omega)) (by rw [m 0 (by decide)]) (m 9 (by decide)) (m 10 (by decide)) (m25 _ (by omega)) (fun j _ => m25 j (by omega))
  · exact V_M_cg vm (fun k hk => f _ (by omega) (by omega) (by omega) (by omega)) (by rw [e11]) m
theorem S_vat {B : Int} (hb : 15 ≤ b) (h : H_S b σC σM) (I : V_I b B σC' σM') (F : V_F b σC σM σC' σM') : H_S b σC' σM' ∧ H_F b σC σM σC' σM' := by
  obtain ⟨⟨t1, t2, t3, t4, t5, t6⟩, vm, we, ra⟩ := h
  obtain ⟨f, m, mt, m25⟩ := F
  have F : H_F b σC σM σC' σM' := ⟨fun c hc => f c (by omega) (by omega) (by omega) (by omega) (by omega) (by omega) (by omega) (by omega) (by omega) (by omega) (by omega), m, mt⟩
  have e0 : σC' b = σC b := f b (by omega) (by omega) (by omega) (by omega) (by omega) (by omega) (by omega) (by omega) (by omega) (by omega) (by omega)
  refine ⟨⟨⟨I.1, ?_, I.2.1, I.2.2.1, I.2.2.2.1, ?_⟩, I.2.2.2.2.2, R_wea_cg we hb F, R_rag_cg ra hb F⟩, F⟩
  · exact T_bea_cg t2 (fun k _ _ => f _ (by omega) (by omega) (by omega) (by omega) (by omega) (by omega) (by omega) (by omega) (by omega) (by omega) (by omega)) (fun j _ _ => m25 j (by omega))
  · exact T_hea_cg t6 (by rw [e0]) (fun k _ _ => f _ (by omega) (by omega) (by omega) (by omega) (by omega) (by omega) (by omega) (by omega) (by omega) (by omega) (by omega)) (by rw [m 0 (by decide) (by decide) (by decide) (by decide) (by decide)]) (m 9 (by decide) (by decide) (by decide) (by decide) (by decide)) (m 10 (by decide) (by decide) (by decide) (by decide) (by decide)) (m25 _ (by omega)) (fun j _ => m25 j (by omega))
/-- the clock -/
theorem S_clock (hb : 15 ≤ b) (h : H_S b σC σM) (hh : σC b 7 < 2400) : H_S b (pm_up σC b 7 (σC b 7 + 1)) (pm_up σM 25 751 (σC b 7 + 1)) ∧ H_F b σC σM (pm_up σC b 7 (σC b 7 + 1)) (pm_up σM 25 751 (σC b 7 + 1)) ∧ (∀ i, i < 8 → (pm_up σC b 7 (σC b 7 + 1)) (b + 10) i ≤ 60 * σC b 7) := by
  obtain ⟨⟨t1, t2, t3, t4, t5, t6⟩, vm, we, ra⟩ := h
  have F : H_F b σC σM (pm_up σC b 7 (σC b 7 + 1)) (pm_up σM 25 751 (σC b 7 + 1)) := ⟨fun c hc => pu_o (by omega), fun c h1 _ _ _ _ => pu_o h1, fun _ c hc => pu_o hc⟩
  obtain ⟨n1, n2, n3, n4⟩ := t1
  obtain ⟨u1, u2, u3, u4, u5, u6⟩ := t3
  obtain ⟨p1, p2, p3, p4, p5, p6, p7, p8, p9, p10, p11⟩ := t4
  obtain ⟨k1, k2, k3, k4, k5, k6⟩ := t6
  refine ⟨⟨⟨?_, ?_, ?_, ?_, ?_, ?_⟩, ?_, R_wea_cg we hb F, R_rag_cg ra hb F⟩, F, ?_⟩
  · refine ⟨by rw [pu_eq ⟨rfl, rfl⟩, pu_eq ⟨rfl, rfl⟩], by rw [pu_eq ⟨rfl, rfl⟩]; omega, by rw [pu_eq ⟨rfl, rfl⟩]; omega, fun i hi => by rw [pu_ne (by omega), pu_ne (by omega)]; exact n4 i hi⟩
  · exact T_bea_cg t2 (fun k _ _ => pu_o (by omega)) (fun j _ _ => pu_ne (by omega))
  · unfold T_mou
    simp (disch := omega) only [pu_o, pu_eq]
    refine ⟨u1, u2, u3, u4, u5, fun i hi => by have := u6 i hi; omega⟩
  · unfold T_pos
    simp (disch := omega) only [pu_o, pu_eq]
    refine ⟨by rw [pu_ne (by omega)]; exact p1, p2, p3, p4, p5, p6, p7, p8, fun i hi => ?_, p10, p11⟩
    obtain ⟨b1, b2, ⟨b3, b3a, b3b⟩, ⟨b4, b5⟩, b6, b10, b11, b13⟩ := p9 i hi
    simp (disch := omega) only [pu_ne]
    refine ⟨b1, b2, ⟨b3, b3a, by omega⟩, ⟨b4, ?_⟩, b6, b10, b11, b13⟩
    split
    · rename_i q
      rw [if_pos q] at b5
      exact ⟨b5.1, by omega⟩
    · rename_i q
      rw [if_neg q] at b5
      exact b5
  · exact T_vat_cg t5 (pu_ne (by omega)) (fun k _ _ => pu_o (by omega)) (pu_o (by omega)) (pu_o (by omega)) (pu_ne (by omega)) (fun j _ _ => pu_ne (by omega))
  · unfold T_hea
    simp (disch := omega) only [pu_o, pu_eq]
    refine ⟨k1, k2, k3, by rw [pu_ne (by omega)]; exact k4, fun i hi h2 => by rw [pu_ne (by omega)]; exact k5 i hi h2, fun i hi => ?_⟩
    obtain ⟨b1, b2, ⟨b3, b3a, b3b⟩, b4⟩ := k6 i hi
    simp (disch := omega) only [pu_ne]
    exact ⟨b1, b2, ⟨b3, b3a, by omega⟩, b4⟩
  · exact V_M_cg vm (fun k hk => pu_o (by omega)) (pu_ne (by omega)) (fun c hc => pu_o hc)
  · intro i hi
    rw [pu_ne (by omega)]
    exact (u6 i hi).2
set_option maxHeartbeats 8000000 in
/-- what follows the vats -/
theorem h_tail {dr y1 y2 : Int} {d : Nat} (hb : 15 ≤ b) (h : H_S b σC σM) (hd : d < 101) (hdr : dr = 0 ∨ dr = σC 8 d) : ∃ (σ1 τ1 σC' σM' : pm_M) (k z : Int), fX6_hangWet b (σC b 7) σC = some σ1 ∧ (pm_it (fun a : Int × Int × pm_M => bdX12_hour_109 y1 y2 a.1 a.2.1 a.2.2) pm_fuel (σC (b + 11) 9 - σC (b + 11) 10, 0, σM) = some (k, z, τ1)) ∧ R_wea σ1 τ1 ∧ σ1 8 = σC 8 ∧ ((fX6_dryHanging b dr (σ1 b 7) σ1).bind fun q18 => (fX1_spoilOld b (q18 b 7) q18).bind fun q20 => some q20) = some σC' ∧ jnX12_hour_189 dr τ1 = some σM' ∧ H_S b σC' σM' ∧ H_F b σC σM σC' σM' ∧ σC' b = σC b := by
  have db : 0 ≤ dr ∧ dr ≤ 9 := by
    have q := e_on_b h.2.2.1 (d := d) (x := 1) hd (by decide)
    have q1 : 0 ≤ σC 8 d := q.1
    have q2 : σC 8 d ≤ 9 := q.2.2 rfl
    omega
  obtain ⟨⟨t1, t2, t3, t4, t5, t6⟩, -⟩ := id h
  obtain ⟨σ1, τ1, a1, ⟨ak, az, a2⟩, a3, a4, a5, a6, a7⟩ := h_hang (y1 := y1) (y2 := y2) t1 t4
  obtain ⟨h1, F1⟩ := S_pos hb h a3 (fun c h1 h2 => a4 c h1 (by omega)) a5 a6 a7
  obtain ⟨σ2, τ2, b1, ⟨bz, b2⟩, b3, b4, b5, b6, b7⟩ := h_dry db h1.1.1 h1.1.2.2.2.1
  obtain ⟨h2, F2⟩ := S_pos hb h1 b3 (fun c h1 h2 => b4 c h1 (by omega) (by omega)) b5 b6 b7
  obtain ⟨σ3, τ3, c1, ⟨cz, c2⟩, c3, c4, c5, c6⟩ := h_spoil hb h2.2.2.2 h2.1.1 h2.1.2.2.2.2.2
  obtain ⟨h3, F3⟩ := S_hea hb h2 c3 c4 c5 c6
  refine ⟨σ1, τ1, σ3, τ3, ak, az, a1, a2, h1.2.2.1, a4 8 (by omega) (by omega), ?_, ?_, h3, H_F_trans F1 (H_F_trans F2 F3), ?_⟩
  · rw [b1, Option.bind_some, c1, Option.bind_some]
  · unfold jnX12_hour_189
    rw [b2, Option.bind_some]
    dsimp only
    rw [c2, Option.bind_some]
  · rw [c4 b (by omega) (by omega) (by omega), b4 b (by omega) (by omega) (by omega), a4 b (by omega) (by omega)]
set_option maxHeartbeats 8000000 in
theorem h_hour (hb : 15 ≤ b) (h : H_S b σC σM) (hh : σC b 7 < 2400) : ∃ σC' σM' : pm_M, fX10_passOne b σC = some σC' ∧ fX12_hour σM = some σM' ∧ H_S b σC' σM' ∧ H_F b σC σM σC' σM' ∧ σC' b 7 = σC b 7 + 1 := by
  obtain ⟨h1, F1, hB⟩ := S_clock hb h hh
  have n1 := h.1.1.1
  have n2 := h.1.1.2.1
  obtain ⟨H, hH⟩ := Int.eq_ofNat_of_zero_le n2
  obtain ⟨d, hd⟩ : ∃ d, d = H / 24 := ⟨_, rfl⟩
  have hd1 : d < 101 := by omega
  have eC : Int.tdiv (wr (σC b 7)) 24 = (d : Int) := by
    rw [wr_eq (by omega) (by omega), Int.tdiv_eq_ediv_of_nonneg (by omega)]
    omega
  have eM : Int.tdiv (wr (σM 25 (Int.toNat 751))) 24 = (d : Int) := by
    rw [show σM 25 (Int.toNat 751) = σC b 7 from n1.symm]
    exact eC
  obtain ⟨σ0, hσ0⟩ : ∃ σ0, σ0 = pm_up σC b 7 (σC b 7 + 1) := ⟨_, rfl⟩
  obtain ⟨τ0, hτ0⟩ : ∃ τ0, τ0 = pm_up σM 25 751 (σC b 7 + 1) := ⟨_, rfl⟩
  rw [← hσ0, ← hτ0] at h1 F1
  rw [← hσ0] at hB
  have eT : pm_up σM 25 (Int.toNat 751) (σM 25 (Int.toNat 751) + 1) = τ0 := by
    rw [hτ0, n1]
    rfl
  have s7 : σ0 b 7 = σC b 7 + 1 := by rw [hσ0, pu_eq ⟨rfl, rfl⟩]
  have o9 : σ0 9 = σC 9 := F1.1 9 (by omega)
  obtain ⟨x2, -⟩ := e_on h.2.2.1 (d := d) (x := 2) hd1 (by decide)
  obtain ⟨-, y2⟩ := e_on h1.2.2.1 (d := d) (x := 2) hd1 (by decide)
  obtain ⟨x0, y0⟩ := e_on h1.2.2.1 (d := d) (x := 0) hd1 (by decide)
  have x2' : fX9_on d 2 σC = some (σC 9 d) := x2
  have y2' : fX12_reckoned d 2 τ0 = some (σC 9 d) := by rw [← o9]; exact y2
  have x0' : fX9_on d 0 σ0 = some (σ0 7 d) := x0
  have y0' : fX12_reckoned d 0 τ0 = some (σ0 7 d) := y0
  have w0 := e_on_b h1.2.2.1 (d := d) (x := 0) hd1 (by decide)
  have w0' : 0 ≤ σ0 7 d ∧ σ0 7 d ≤ 60 := ⟨w0.1, w0.2.1⟩
  have f0 : 0 ≤ σC 9 d ∧ σC 9 d ≤ 1 := by
    obtain ⟨-, -, q, -, -, q9⟩ := h.2.2.1 d hd1
    omega
  have VI : V_I b (60 * σC b 7) σ0 τ0 := ⟨h1.1.1, h1.1.2.2.1, h1.1.2.2.2.1, h1.1.2.2.2.2.1, hB, h1.2.1⟩
  by_cases c : σC 9 d = 1
  · -- frost
    have z0 := h_beat0 h1.1.2.1
    obtain ⟨z, σ1, τ1, k1, k2, k3, k4⟩ := h_frost (y1 := (d : Int)) (y2 := 1) VI
    obtain ⟨h2, F2⟩ := S_vat hb h1 k3 k4
    have e7 : σ1 b = σ0 b := (V_F_b k4).1
    obtain ⟨σ2, τ2, σ3, τ3, kk, zz, a1, a2, a3, a4, a5, a6, a7, a8, a9⟩ := h_tail (dr := 0) (y1 := (d : Int)) (y2 := 1) hb h2 hd1 (Or.inl rfl)
    refine ⟨σ3, τ3, ?_, ?_, a7, H_F_trans F1 (H_F_trans F2 a8), by rw [a9, e7, s7]⟩
    · unfold fX10_passOne fX10_today
      rw [Option.bind_some, eC, x2', Option.bind_some, c, if_pos (by decide)]
      unfold jnX10_passOne_23
      rw [if_neg (by decide), ← hσ0]
      unfold jnX10_passOne_55
      rw [z0, Option.bind_some]
      dsimp only
      rw [k1, Option.bind_some, a1, Option.bind_some, if_neg (by decide)]
      exact a5
    · unfold fX12_hour
      rw [eT, eM, y2', Option.bind_some, c, if_pos (by decide)]
      unfold jnX12_hour_39
      rw [if_neg (by decide), k2, Option.bind_some]
      unfold jnX12_hour_100
      dsimp only
      rw [e_hang h2.1.2.2.2.1, Option.bind_some, a2, Option.bind_some, if_neg (by decide)]
      exact a6
  · have c0 : σC 9 d = 0 := by omega
    obtain ⟨w1, z1, σb, τb, b1, b2, b3, b4, b5, b6, b7, b8⟩ := h_beat w0' h1.1.1 h1.1.2.1
    obtain ⟨hb1, Fb⟩ := S_bea hb h1 b4 b5 b6 b7 b8
    have eb : σb b = σ0 b := b6 b (by omega) (by omega) (by omega) (by omega)
    have VI2 : V_I b (60 * σC b 7) σb τb := ⟨hb1.1.1, hb1.1.2.2.1, hb1.1.2.2.2.1, hb1.1.2.2.2.2.1, fun i hi => by rw [b6 _ (by omega) (by omega) (by omega) (by omega)]; exact hB i hi, hb1.2.1⟩
    obtain ⟨w2, z2, σ1, τ1, k1, k2, k3, k4⟩ := h_vats b3 VI2 (by rw [eb, s7]; omega)
    obtain ⟨h2, F2⟩ := S_vat hb hb1 k3 k4
    have e7 : σ1 b = σb b := (V_F_b k4).1
    obtain ⟨σ2, τ2, σ3, τ3, kk, zz, a1, a2, a3, a4, a5, a6, a7, a8, a9⟩ := h_tail (dr := σ1 8 d) (y1 := (d : Int)) (y2 := 0) hb h2 hd1 (Or.inr rfl)
    obtain ⟨p1, p2⟩ := e_on a3 (d := d) (x := 1) hd1 (by decide)
    have p1' : fX9_on d 1 σ2 = some (σ1 8 d) := by rw [← a4]; exact p1
    have p2' : fX12_reckoned d 1 τ2 = some (σ1 8 d) := by rw [← a4]; exact p2
    refine ⟨σ3, τ3, ?_, ?_, a7, H_F_trans F1 (H_F_trans Fb (H_F_trans F2 a8)), by rw [a9, e7, eb, s7]⟩
    · unfold fX10_passOne fX10_today
      rw [Option.bind_some, eC, x2', Option.bind_some, c0, if_neg (by decide)]
      unfold jnX10_passOne_23
      rw [if_pos (by decide), ← hσ0, x0', Option.bind_some]
      unfold jnX10_passOne_55
      rw [b1, Option.bind_some]
      dsimp only
      rw [k1, Option.bind_some, a1, Option.bind_some, if_pos (by decide), p1', Option.bind_some]
      exact a5
    · unfold fX12_hour
      rw [eT, eM, y2', Option.bind_some, c0, if_neg (by decide)]
      unfold jnX12_hour_39 fX12_works
      rw [if_pos (by decide), y0', Option.bind_some, b2, Option.bind_some]
      dsimp only
      rw [k2, Option.bind_some, Option.bind_some]
      unfold jnX12_hour_100
      dsimp only
      rw [e_hang h2.1.2.2.2.1, Option.bind_some, a2, Option.bind_some, if_pos (by decide)]
      dsimp only
      rw [p2', Option.bind_some]
      exact a6
end HS
