/-! ===== fresh memory, fills ===== -/
theorem pm_zero_le {n m : Nat} {σ : pm_M} (h : pm_zero n σ) (hm : n ≤ m) : pm_zero m σ := fun c j hc => h c j (Nat.le_trans hm hc)
theorem pm_zero_up {n : Nat} {σ : pm_M} {c j : Nat} {v : Int} (h : pm_zero n σ) (hc : c < n) : pm_zero n (pm_up σ c j v) := by
  intro c' j' h'
  unfold pm_up
  rw [if_neg (by omega)]
  exact h c' j' h'
def pm_fill (σ : pm_M) (a N : Nat) (v : Int) : pm_M := fun c i => if c = a ∧ i < N then v else σ c i
theorem pm_zero_fill {n : Nat} {σ : pm_M} {c N : Nat} {v : Int} (h : pm_zero n σ) (hc : c < n) : pm_zero n (pm_fill σ c N v) := by
  intro c' j' h'
  unfold pm_fill
  rw [if_neg (by omega)]
  exact h c' j' h'
theorem pr_putRl {md : pm_D} {d lo : Nat} {lay0 lay lay' lay2 : List pm_S} {r : Option pm_V} {σ σ' : pm_M} {pc : Nat} {L : List (Option pm_V)} {S : List pm_V} {t idx ci j o : Nat} {fs : List pm_F} {ty : FieldType} (hd : decode md.2.1 pc = .ok (.putfield idx, 3)) (hw : pm_LP md.1.cls idx ci j true ty) (hini : md.1.name = "<init>") (hr : (∃ n, ty = .object n) ∨ ∃ n, ty = .array n) (hy : lay[t]? = some (ps_o ci fs)) (hj : j < fs.length) (h2 : lay.set t (ps_o ci (fs.set j (some (some o)))) = lay2) (kk : pm_J md d lo lay0 r lay' σ' (pc + 3) L S lay2 σ) : pm_J md d lo lay0 r lay' σ' pc L (pv_r o :: pv_r t :: S) lay σ := by
  subst h2
  exact pr_putR hd hw hini hr hy hj kk
theorem wr_nat {k : Nat} (h : k < 2147483648) : wr (k : Int) = (k : Int) := wr_eq (by omega) (by omega)
theorem pm_fill_f {a N : Nat} {v : Int} {σ : pm_M} (hN : N < 90000) : fJ7_fill_53178 a N v σ = some (pm_fill σ a N v) := by
  obtain ⟨b, h1, h2⟩ := pm_it_ok (f := fun x : Int × pm_M => bdJ7_fill_53178_5 a N v (N : Int) x.1 x.2) (fun x => ∃ k : Nat, k ≤ N ∧ x.1 = (k : Int) ∧ x.2 = pm_fill σ a k v) (fun x : Int × pm_M => x.2 = pm_fill σ a N v) (fun x => N - x.1.toNat) (by
    rintro ⟨i, τ⟩ ⟨k, hk, h1, h2⟩
    simp only at h1 h2
    subst h1
    subst h2
    simp only [bdJ7_fill_53178_5]
    rw [wr_nat (k := N) (by omega), wr_nat (k := k) (by omega)]
    by_cases hc : (N : Int) ≤ k
    · left
      refine ⟨_, if_pos hc, ?_⟩
      have : k = N := by omega
      rw [this]
    · right
      rw [if_neg hc]
      unfold pm_g
      rw [if_pos (by omega)]
      refine ⟨_, rfl, ⟨k + 1, by omega, by simp, ?_⟩, by simp; omega⟩
      funext c j
      show pm_up (pm_fill σ a k v) a (Int.toNat (k : Int)) v c j = _
      unfold pm_up pm_fill
      by_cases e : c = a
      · subst e
        simp only [true_and, Int.toNat_natCast]
        by_cases e2 : j = k
        · rw [if_pos e2, if_pos (by omega)]
        · rw [if_neg e2]
          by_cases e3 : j < k
          · rw [if_pos e3, if_pos (by omega)]
          · rw [if_neg e3, if_neg (by omega)]
      · rw [if_neg (fun q => e q.1), if_neg (fun q => e q.1), if_neg (fun q => e q.1)]) pm_fuel (0, σ) ⟨0, Nat.zero_le _, rfl, by funext c j; unfold pm_fill; rw [if_neg (by omega)]⟩ (by unfold pm_fuel; simp; omega)
  unfold fJ7_fill_53178
  rw [h1]
  show some b.2 = _
  rw [h2]
theorem pm_fill_C {lay : List pm_S} {σ : pm_M} {a N : Nat} {v : Int} (h : lay[a]? = some (ps_a N)) (hN : N < 90000) : pm_C mJ7_fill_53178 0 0 [pv_r a, pv_i v] lay σ none lay (pm_fill σ a N v) := tmJ7_fill_53178 h (pm_fill_f hN)
