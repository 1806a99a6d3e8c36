/-! ===== the abstract machine: numbers as Int, cells by their numbers, a memory of numbers ===== -/
-- values: a number, a long, a reference (or null), one of the static arrays
abbrev pm_V : Type := Int ⊕ (Int ⊕ (Option Nat ⊕ Nat))
abbrev pv_i (x : Int) : pm_V := .inl x
abbrev pv_l (x : Int) : pm_V := .inr (.inl x)
abbrev pv_o (r : Option Nat) : pm_V := .inr (.inr (.inl r))
abbrev pv_r (r : Nat) : pm_V := .inr (.inr (.inl (some r)))
abbrev pv_s (j : Nat) : pm_V := .inr (.inr (.inr j))
def pm_cv (ad sd : Nat → Nat) : pm_V → Value
  | .inl x => .int (Int32.ofInt x)
  | .inr (.inl x) => .long (Int64.ofInt x)
  | .inr (.inr (.inl none)) => .null
  | .inr (.inr (.inl (some r))) => .ref (ad r)
  | .inr (.inr (.inr j)) => .ref (sd j)
def pm_ct : pm_V → Nat
  | .inr (.inl _) => 2
  | _ => 1
theorem pm_ct_eq (ad sd : Nat → Nat) (v : pm_V) : (pm_cv ad sd v).category = pm_ct v := by
  rcases v with x | x | (_ | r) | j <;> rfl
-- shapes of cells: an int array, an array of rows, an object (none: a number; some: a reference or null)
abbrev pm_F : Type := Option (Option Nat)
abbrev pm_S : Type := Nat ⊕ (List Nat ⊕ (Nat × List pm_F))
abbrev pm_M : Type := Nat → Nat → Int
abbrev ps_a (n : Nat) : pm_S := .inl n
abbrev ps_q (rs : List Nat) : pm_S := .inr (.inl rs)
abbrev ps_o (ci : Nat) (fs : List pm_F) : pm_S := .inr (.inr (ci, fs))
abbrev pm_K : Type := va_G × ClassId × ClassId × (Nat → Nat)
def pm_fld (ad : Nat → Nat) (m : Nat → Int) (k : Nat) (f : pm_F) : Value := match f with
  | none => .int (Int32.ofInt (m k))
  | some none => .null
  | some (some r) => .ref (ad r)
def pm_cell (k : pm_K) (ad : Nat → Nat) (m : Nat → Int) (S : pm_S) : va_E := match S with
  | .inl n => .inl (k.2.1, n, .inl (fun i => Int32.ofInt (m i)))
  | .inr (.inl rs) => .inl (k.2.2.1, rs.length, .inr (.inr (.inr (.inr (fun i => (rs[i]?).map ad)))))
  | .inr (.inr (ci, fs)) => .inr (ci, fs.mapIdx (fun j f => pm_fld ad m j f))
def pm_W (k : pm_K) (ad : Nat → Nat) (lay : List pm_S) (σ : pm_M) : va_W := lay.mapIdx (fun c S => (ad c, pm_cell k ad (σ c) S))
def pm_sz (S : pm_S) : Nat := match S with
  | .inl n => n
  | .inr (.inl rs) => rs.length
  | .inr (.inr (_, fs)) => fs.length
def pm_sl (lay : List pm_S) : Nat := (lay.map pm_sz).sum
theorem pm_W_at {k : pm_K} {ad : Nat → Nat} {lay : List pm_S} {σ : pm_M} {c : Nat} {S : pm_S} (h : lay[c]? = some S) : (pm_W k ad lay σ)[c]? = some (ad c, pm_cell k ad (σ c) S) := by
  unfold pm_W
  rw [List.getElem?_mapIdx, h]
  rfl
-- one place of the memory written
def pm_up (σ : pm_M) (c j : Nat) (v : Int) : pm_M := fun c' j' => if c' = c ∧ j' = j then v else σ c' j'
theorem pm_W_up {k : pm_K} {ad : Nat → Nat} {lay : List pm_S} {σ : pm_M} {c j : Nat} {v : Int} {S : pm_S} (h : lay[c]? = some S) :
    pm_W k ad lay (pm_up σ c j v) = (pm_W k ad lay σ).set c (ad c, pm_cell k ad (pm_up σ c j v c) S) := by
  apply List.ext_getElem?
  intro i
  unfold pm_W
  rw [List.getElem?_mapIdx]
  by_cases hi : i = c
  · subst hi
    have hlt : i < lay.length := (List.getElem?_eq_some_iff.mp h).1
    rw [List.getElem?_set_self (by rw [List.length_mapIdx]; exact hlt), h]
    rfl
  · rw [List.getElem?_set_ne (Ne.symm hi), List.getElem?_mapIdx]
    have e : pm_up σ c j v i = σ i := by
      funext j'
      unfold pm_up
      rw [if_neg (fun q => hi q.1)]
    rw [e]
/-! numbers -/
def wr (x : Int) : Int := (Int32.ofInt x).toInt
def wl (x : Int) : Int := (Int64.ofInt x).toInt
theorem wr_eq {x : Int} (h1 : -2147483648 ≤ x) (h2 : x < 2147483648) : wr x = x := by
  unfold wr
  rw [Int32.toInt_ofInt]
  have e : (Int32.size : Int) = 4294967296 := rfl
  exact Int.bmod_eq_of_le (by omega) (by omega)
theorem wr_rng (x : Int) : -2147483648 ≤ wr x ∧ wr x < 2147483648 := by
  unfold wr
  exact ⟨Int32.le_toInt _, Int32.toInt_lt _⟩
theorem wr_wr (x : Int) : wr (wr x) = wr x := wr_eq (wr_rng x).1 (wr_rng x).2
theorem wr_to (x : Int32) : wr x.toInt = x.toInt := wr_eq (Int32.le_toInt x) (Int32.toInt_lt x)
theorem pm_ofw (x : Int) : Int32.ofInt (wr x) = Int32.ofInt x := by
  unfold wr
  exact Int32.ofInt_toInt _
theorem wl_eq {x : Int} (h1 : -9223372036854775808 ≤ x) (h2 : x < 9223372036854775808) : wl x = x := by
  unfold wl
  rw [Int64.toInt_ofInt]
  have e : (Int64.size : Int) = 18446744073709551616 := rfl
  exact Int.bmod_eq_of_le (by omega) (by omega)
theorem pm_lt (x y : Int) : Int32.ofInt x < Int32.ofInt y ↔ wr x < wr y := Int32.lt_iff_toInt_lt
theorem pm_le (x y : Int) : Int32.ofInt x ≤ Int32.ofInt y ↔ wr x ≤ wr y := Int32.le_iff_toInt_le
theorem pm_eq (x y : Int) : Int32.ofInt x = Int32.ofInt y ↔ wr x = wr y := ⟨fun h => congrArg Int32.toInt h, fun h => Int32.toInt_inj.mp h⟩
theorem pm_add (x y : Int) : Int32.ofInt x + Int32.ofInt y = Int32.ofInt (x + y) := (Int32.ofInt_add x y).symm
theorem pm_sub (x y : Int) : Int32.ofInt x - Int32.ofInt y = Int32.ofInt (x - y) := (Int32.ofInt_sub x y).symm
theorem pm_mul (x y : Int) : Int32.ofInt x * Int32.ofInt y = Int32.ofInt (x * y) := (Int32.ofInt_mul x y).symm
theorem pm_neg (x : Int) : - Int32.ofInt x = Int32.ofInt (-x) := (Int32.ofInt_neg x).symm
theorem pm_in {x : Int} {n : Nat} (h1 : 0 ≤ wr x) (h2 : wr x < n) : vp_in (Int32.ofInt x) n := vp_in_iff.mpr ⟨h1, h2⟩
theorem pm_cl (x : Int) : (Int32.ofInt x).toNatClampNeg = (wr x).toNat := rfl
