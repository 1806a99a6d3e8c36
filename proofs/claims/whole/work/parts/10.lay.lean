/-! ===== worlds: the class's cells, the reference's cells ===== -/
def pm_lel : List (Option pm_V) → List (Option pm_V) → Prop
  | [], _ => True
  | _ :: _, [] => False
  | a :: l, b :: m => (a = none ∨ a = b) ∧ pm_lel l m
theorem pm_lel_at : ∀ (l m : List (Option pm_V)), pm_lel l m → ∀ (i : Nat) (v : pm_V), l[i]? = some (some v) → m[i]? = some (some v)
  | [], _, _, i, v, h => by simp at h
  | a :: l, [], h, _, _, _ => h.elim
  | a :: l, b :: m, h, i, v, hi => by
    cases i with
    | zero =>
      have e : a = some v := Option.some.inj hi
      rcases h.1 with q | q
      · rw [q] at e; cases e
      · show some b = some (some v); rw [← q, e]
    | succ i => exact pm_lel_at l m h.2 i v hi
theorem pr_weak {md : pm_D} {d lo : Nat} {lay0 lay lay' : List pm_S} {r : Option pm_V} {σ σ' : pm_M} {pc : Nat} {L L2 : List (Option pm_V)} {S : List pm_V} (h : pm_lel L2 L) (kk : pm_J md d lo lay0 r lay' σ' pc L2 S lay σ) : pm_J md d lo lay0 r lay' σ' pc L S lay σ := by
  refine ⟨kk.1, fun p l e s m args below meth c k A ad0 ad H locs ls X h1 h2 h3 hP hD hS hl => kk.2 p l e s m args below meth c k A ad0 ad H locs ls X h1 h2 h3 hP hD hS (pm_lc_sub hl (fun q hq => ?_))⟩
  obtain ⟨v, g1, g2⟩ := pm_lc_mem.mp hq
  exact pm_lc_mem.mpr ⟨v, pm_lel_at _ _ h _ _ g1, g2⟩
theorem pm_row3 {B : Nat} {i : Int} (h : 0 ≤ i ∧ i < 3) : [B, B + 1, B + 2][Int.toNat i]? = some (B + Int.toNat i) := by
  have h3 : Int.toNat i = 0 ∨ Int.toNat i = 1 ∨ Int.toNat i = 2 := by omega
  rcases h3 with e | e | e <;> rw [e] <;> rfl
def pm_max (x y : Int) : Int := if wr x < wr y then y else x
def pm_min (x y : Int) : Int := if wr y < wr x then y else x
def pm_abs (x : Int) : Int := if 0 ≤ wr x then x else 0 - x
def pm_MM (own : String) (idx : Nat) (y : MethodName) (cd : ByteArray) (n : Nat) : Prop := Cond.methodLink own idx y ∈ pm_G ∧ Cond.static y ∈ pm_G ∧ Cond.initialized "java/lang/Math" ∈ pm_G ∧ Cond.code y cd n (some .int) ∈ pm_G
section PMM
variable {md : pm_D} {d lo : Nat} {lay0 lay lay' : List pm_S} {r : Option pm_V} {σ σ' : pm_M} {pc idx : Nat} {L : List (Option pm_V)} {S : List pm_V}
theorem pr_mmax {x y : Int} (hd : decode md.2.1 pc = .ok (.invokestatic idx, 3)) (hw : pm_MM md.1.cls idx Lib.Math.max.name Lib.Math.max.code 2) (hf : 1 ≤ d) (hlo : (S.map pm_ct).sum + 13 ≤ lo) (kk : pm_J md d lo lay0 r lay' σ' (pc + 3) L (pv_i (pm_max x y) :: S) lay σ) : pm_J md d lo lay0 r lay' σ' pc L (pv_i y :: pv_i x :: S) lay σ := by
  refine ⟨kk.1, fun p l e s m args below meth c k A ad0 ad H locs ls X h1 h2 h3 hP hD hS hl => ?_⟩
  obtain ⟨w1, w2, w3, w4⟩ := hw
  have hm := kk.1
  refine va_mmax X.1 X.2.1 (X.2.2.2.1.trans hl.1.symm) X.2.2.2.2.1 (X.2.2.2.2.2.1 _ (pm_wds_in w1)) (X.2.2.2.2.2.1 _ (pm_wds_in w2)) (X.2.2.2.2.2.1 _ (pm_wds_in w3)) (X.2.2.2.2.2.1 _ (pm_wds_in w4)) hf (by rw [pm_cats]; exact hlo) (by show _ ≤ lay'.length - lay0.length; omega) (by show _ ≤ pm_sl lay' - pm_sl lay0; omega) hd ?_
  have e9 : (if Int32.ofInt x < Int32.ofInt y then Int32.ofInt y else Int32.ofInt x) = Int32.ofInt (pm_max x y) := by
    unfold pm_max
    by_cases q : wr x < wr y
    · rw [if_pos ((pm_lt x y).mpr q), if_pos q]
    · rw [if_neg (fun z => q ((pm_lt x y).mp z)), if_neg q]
  rw [e9]
  exact kk.2 p l e s m args below meth c k A ad0 ad H locs ls X h1 h2 h3 hP hD hS hl
theorem pr_mmin {x y : Int} (hd : decode md.2.1 pc = .ok (.invokestatic idx, 3)) (hw : pm_MM md.1.cls idx Lib.Math.min.name Lib.Math.min.code 2) (hf : 1 ≤ d) (hlo : (S.map pm_ct).sum + 13 ≤ lo) (kk : pm_J md d lo lay0 r lay' σ' (pc + 3) L (pv_i (pm_min x y) :: S) lay σ) : pm_J md d lo lay0 r lay' σ' pc L (pv_i y :: pv_i x :: S) lay σ := by
  refine ⟨kk.1, fun p l e s m args below meth c k A ad0 ad H locs ls X h1 h2 h3 hP hD hS hl => ?_⟩
  obtain ⟨w1, w2, w3, w4⟩ := hw
  have hm := kk.1
  refine va_mmin X.1 X.2.1 (X.2.2.2.1.trans hl.1.symm) X.2.2.2.2.1 (X.2.2.2.2.2.1 _ (pm_wds_in w1)) (X.2.2.2.2.2.1 _ (pm_wds_in w2)) (X.2.2.2.2.2.1 _ (pm_wds_in w3)) (X.2.2.2.2.2.1 _ (pm_wds_in w4)) hf (by rw [pm_cats]; exact hlo) (by show _ ≤ lay'.length - lay0.length; omega) (by show _ ≤ pm_sl lay' - pm_sl lay0; omega) hd ?_
  have e9 : (if Int32.ofInt y < Int32.ofInt x then Int32.ofInt y else Int32.ofInt x) = Int32.ofInt (pm_min x y) := by
    unfold pm_min
    by_cases q : wr y < wr x
    · rw [if_pos ((pm_lt y x).mpr q), if_pos q]
    · rw [if_neg (fun z => q ((pm_lt y x).mp z)), if_neg q]
  rw [e9]
  exact kk.2 p l e s m args below meth c k A ad0 ad H locs ls X h1 h2 h3 hP hD hS hl
theorem pr_mabs {x : Int} (hd : decode md.2.1 pc = .ok (.invokestatic idx, 3)) (hw : pm_MM md.1.cls idx Lib.Math.abs.name Lib.Math.abs.code 1) (hf : 1 ≤ d) (hlo : (S.map pm_ct).sum + 13 ≤ lo) (kk : pm_J md d lo lay0 r lay' σ' (pc + 3) L (pv_i (pm_abs x) :: S) lay σ) : pm_J md d lo lay0 r lay' σ' pc L (pv_i x :: S) lay σ := by
  refine ⟨kk.1, fun p l e s m args below meth c k A ad0 ad H locs ls X h1 h2 h3 hP hD hS hl => ?_⟩
  obtain ⟨w1, w2, w3, w4⟩ := hw
  have hm := kk.1
  refine va_mabs X.1 X.2.1 (X.2.2.2.1.trans hl.1.symm) X.2.2.2.2.1 (X.2.2.2.2.2.1 _ (pm_wds_in w1)) (X.2.2.2.2.2.1 _ (pm_wds_in w2)) (X.2.2.2.2.2.1 _ (pm_wds_in w3)) (X.2.2.2.2.2.1 _ (pm_wds_in w4)) hf (by rw [pm_cats]; exact hlo) (by show _ ≤ lay'.length - lay0.length; omega) (by show _ ≤ pm_sl lay' - pm_sl lay0; omega) hd ?_
  have e9 : (if 0 ≤ Int32.ofInt x then Int32.ofInt x else 0 - Int32.ofInt x) = Int32.ofInt (pm_abs x) := by
    unfold pm_abs
    by_cases q : 0 ≤ wr x
    · rw [if_pos ((pm_ge0 x).mpr q), if_pos q]
    · rw [if_neg (fun z => q ((pm_ge0 x).mp z)), if_neg q]
      exact pm_sub 0 x
  rw [e9]
  exact kk.2 p l e s m args below meth c k A ad0 ad H locs ls X h1 h2 h3 hP hD hS hl
end PMM
theorem st_0 : pm_st[0]? = some ("PaperMill", "ROW_WHEN_NONE", [20, 4, 0]) := rfl
theorem st_1 : pm_st[1]? = some ("PaperMill", "ROW_LEAST", [-1, -1, 0]) := rfl
theorem st_2 : pm_st[2]? = some ("PaperMill", "ROW_GREATEST", [60, 9, 1]) := rfl
def LAYC : List pm_S := [ps_o 11 [some (some 1), some (some 10), some (some 15), some (some 48), some (some 81), some (some 89), some (some 91), some (some 92), some (some 93), none, none], ps_o 9 [some (some 2), some (some 6)], ps_q [3, 4, 5], ps_a 101, ps_a 101, ps_a 101, ps_q [7, 8, 9], ps_a 101, ps_a 101, ps_a 101, ps_o 7 [some (some 11), some (some 12), some (some 13), some (some 14)], ps_a 9, ps_a 9, ps_a 9, ps_a 9, ps_o 10 [some (some 1), some (some 16), some (some 43), some (some 17), some (some 22), some (some 26), some (some 37), none], ps_a 9, ps_o 0 [some (some 18), some (some 19), some (some 20), some (some 21)], ps_a 4, ps_a 4, ps_a 4, ps_a 4, ps_o 3 [some (some 23), some (some 24), some (some 25), none], ps_a 4, ps_a 48, ps_a 8, ps_o 6 [some (some 27), some (some 30), some (some 31), some (some 32), some (some 33), some (some 34), some (some 35), some (some 36), none, none, none, none], ps_o 2 [some (some 28), some (some 29)], ps_a 1920, ps_a 80, ps_a 80, ps_a 80, ps_a 80, ps_a 80, ps_a 80, ps_a 80, ps_a 80, ps_o 8 [some (some 16), some (some 22), some (some 26), some (some 38), some (some 39), some (some 40), some (some 41), some (some 42), none], ps_a 3, ps_a 3, ps_a 3, ps_a 3, ps_a 36, ps_o 1 [some (some 10), some (some 44), some (some 45), some (some 46), some (some 47), none, none], ps_a 40, ps_a 40, ps_a 40, ps_a 40, ps_o 10 [some (some 1), some (some 49), some (some 76), some (some 50), some (some 55), some (some 59), some (some 70), none], ps_a 9, ps_o 0 [some (some 51), some (some 52), some (some 53), some (some 54)], ps_a 4, ps_a 4, ps_a 4, ps_a 4, ps_o 3 [some (some 56), some (some 57), some (some 58), none], ps_a 4, ps_a 48, ps_a 8, ps_o 6 [some (some 60), some (some 63), some (some 64), some (some 65), some (some 66), some (some 67), some (some 68), some (some 69), none, none, none, none], ps_o 2 [some (some 61), some (some 62)], ps_a 1920, ps_a 80, ps_a 80, ps_a 80, ps_a 80, ps_a 80, ps_a 80, ps_a 80, ps_a 80, ps_o 8 [some (some 49), some (some 55), some (some 59), some (some 71), some (some 72), some (some 73), some (some 74), some (some 75), none], ps_a 3, ps_a 3, ps_a 3, ps_a 3, ps_a 36, ps_o 1 [some (some 10), some (some 77), some (some 78), some (some 79), some (some 80), none, none], ps_a 40, ps_a 40, ps_a 40, ps_a 40, ps_o 5 [some (some 82), some (some 83), some (some 84), some (some 85), some (some 86), some (some 87), none, some (some 88), none, none], ps_a 12, ps_a 12, ps_a 12, ps_a 12, ps_a 12, ps_a 12, ps_a 12, ps_o 4 [some (some 26), some (some 90), none, none, none], ps_a 6, ps_a 9, ps_a 81, ps_a 7]
theorem lc_0 : LAYC[0]? = some (ps_o 11 [some (some 1), some (some 10), some (some 15), some (some 48), some (some 81), some (some 89), some (some 91), some (some 92), some (some 93), none, none]) := rfl
theorem lc_1 : LAYC[1]? = some (ps_o 9 [some (some 2), some (some 6)]) := rfl
theorem lc_2 : LAYC[2]? = some (ps_q [3, 4, 5]) := rfl
theorem lc_3 : LAYC[3]? = some (ps_a 101) := rfl
theorem lc_4 : LAYC[4]? = some (ps_a 101) := rfl
theorem lc_5 : LAYC[5]? = some (ps_a 101) := rfl
theorem lc_6 : LAYC[6]? = some (ps_q [7, 8, 9]) := rfl
theorem lc_7 : LAYC[7]? = some (ps_a 101) := rfl
theorem lc_8 : LAYC[8]? = some (ps_a 101) := rfl
theorem lc_9 : LAYC[9]? = some (ps_a 101) := rfl
theorem lc_10 : LAYC[10]? = some (ps_o 7 [some (some 11), some (some 12), some (some 13), some (some 14)]) := rfl
theorem lc_11 : LAYC[11]? = some (ps_a 9) := rfl
theorem lc_12 : LAYC[12]? = some (ps_a 9) := rfl
theorem lc_13 : LAYC[13]? = some (ps_a 9) := rfl
theorem lc_14 : LAYC[14]? = some (ps_a 9) := rfl
theorem lc_15 : LAYC[15]? = some (ps_o 10 [some (some 1), some (some 16), some (some 43), some (some 17), some (some 22), some (some 26), some (some 37), none]) := rfl
theorem lc_16 : LAYC[16]? = some (ps_a 9) := rfl
theorem lc_17 : LAYC[17]? = some (ps_o 0 [some (some 18), some (some 19), some (some 20), some (some 21)]) := rfl
theorem lc_18 : LAYC[18]? = some (ps_a 4) := rfl
theorem lc_19 : LAYC[19]? = some (ps_a 4) := rfl
theorem lc_20 : LAYC[20]? = some (ps_a 4) := rfl
theorem lc_21 : LAYC[21]? = some (ps_a 4) := rfl
theorem lc_22 : LAYC[22]? = some (ps_o 3 [some (some 23), some (some 24), some (some 25), none]) := rfl
theorem lc_23 : LAYC[23]? = some (ps_a 4) := rfl
theorem lc_24 : LAYC[24]? = some (ps_a 48) := rfl
theorem lc_25 : LAYC[25]? = some (ps_a 8) := rfl
theorem lc_26 : LAYC[26]? = some (ps_o 6 [some (some 27), some (some 30), some (some 31), some (some 32), some (some 33), some (some 34), some (some 35), some (some 36), none, none, none, none]) := rfl
theorem lc_27 : LAYC[27]? = some (ps_o 2 [some (some 28), some (some 29)]) := rfl
theorem lc_28 : LAYC[28]? = some (ps_a 1920) := rfl
theorem lc_29 : LAYC[29]? = some (ps_a 80) := rfl
theorem lc_30 : LAYC[30]? = some (ps_a 80) := rfl
theorem lc_31 : LAYC[31]? = some (ps_a 80) := rfl
theorem lc_32 : LAYC[32]? = some (ps_a 80) := rfl
theorem lc_33 : LAYC[33]? = some (ps_a 80) := rfl
theorem lc_34 : LAYC[34]? = some (ps_a 80) := rfl
theorem lc_35 : LAYC[35]? = some (ps_a 80) := rfl
theorem lc_36 : LAYC[36]? = some (ps_a 80) := rfl
theorem lc_37 : LAYC[37]? = some (ps_o 8 [some (some 16), some (some 22), some (some 26), some (some 38), some (some 39), some (some 40), some (some 41), some (some 42), none]) := rfl
theorem lc_38 : LAYC[38]? = some (ps_a 3) := rfl
theorem lc_39 : LAYC[39]? = some (ps_a 3) := rfl
theorem lc_40 : LAYC[40]? = some (ps_a 3) := rfl
theorem lc_41 : LAYC[41]? = some (ps_a 3) := rfl
theorem lc_42 : LAYC[42]? = some (ps_a 36) := rfl
theorem lc_43 : LAYC[43]? = some (ps_o 1 [some (some 10), some (some 44), some (some 45), some (some 46), some (some 47), none, none]) := rfl
theorem lc_44 : LAYC[44]? = some (ps_a 40) := rfl
theorem lc_45 : LAYC[45]? = some (ps_a 40) := rfl
theorem lc_46 : LAYC[46]? = some (ps_a 40) := rfl
theorem lc_47 : LAYC[47]? = some (ps_a 40) := rfl
theorem lc_48 : LAYC[48]? = some (ps_o 10 [some (some 1), some (some 49), some (some 76), some (some 50), some (some 55), some (some 59), some (some 70), none]) := rfl
theorem lc_49 : LAYC[49]? = some (ps_a 9) := rfl
theorem lc_50 : LAYC[50]? = some (ps_o 0 [some (some 51), some (some 52), some (some 53), some (some 54)]) := rfl
theorem lc_51 : LAYC[51]? = some (ps_a 4) := rfl
theorem lc_52 : LAYC[52]? = some (ps_a 4) := rfl
theorem lc_53 : LAYC[53]? = some (ps_a 4) := rfl
theorem lc_54 : LAYC[54]? = some (ps_a 4) := rfl
theorem lc_55 : LAYC[55]? = some (ps_o 3 [some (some 56), some (some 57), some (some 58), none]) := rfl
theorem lc_56 : LAYC[56]? = some (ps_a 4) := rfl
theorem lc_57 : LAYC[57]? = some (ps_a 48) := rfl
theorem lc_58 : LAYC[58]? = some (ps_a 8) := rfl
theorem lc_59 : LAYC[59]? = some (ps_o 6 [some (some 60), some (some 63), some (some 64), some (some 65), some (some 66), some (some 67), some (some 68), some (some 69), none, none, none, none]) := rfl
theorem lc_60 : LAYC[60]? = some (ps_o 2 [some (some 61), some (some 62)]) := rfl
theorem lc_61 : LAYC[61]? = some (ps_a 1920) := rfl
theorem lc_62 : LAYC[62]? = some (ps_a 80) := rfl
theorem lc_63 : LAYC[63]? = some (ps_a 80) := rfl
theorem lc_64 : LAYC[64]? = some (ps_a 80) := rfl
theorem lc_65 : LAYC[65]? = some (ps_a 80) := rfl
theorem lc_66 : LAYC[66]? = some (ps_a 80) := rfl
theorem lc_67 : LAYC[67]? = some (ps_a 80) := rfl
theorem lc_68 : LAYC[68]? = some (ps_a 80) := rfl
theorem lc_69 : LAYC[69]? = some (ps_a 80) := rfl
theorem lc_70 : LAYC[70]? = some (ps_o 8 [some (some 49), some (some 55), some (some 59), some (some 71), some (some 72), some (some 73), some (some 74), some (some 75), none]) := rfl
theorem lc_71 : LAYC[71]? = some (ps_a 3) := rfl
theorem lc_72 : LAYC[72]? = some (ps_a 3) := rfl
theorem lc_73 : LAYC[73]? = some (ps_a 3) := rfl
theorem lc_74 : LAYC[74]? = some (ps_a 3) := rfl
theorem lc_75 : LAYC[75]? = some (ps_a 36) := rfl
theorem lc_76 : LAYC[76]? = some (ps_o 1 [some (some 10), some (some 77), some (some 78), some (some 79), some (some 80), none, none]) := rfl
theorem lc_77 : LAYC[77]? = some (ps_a 40) := rfl
theorem lc_78 : LAYC[78]? = some (ps_a 40) := rfl
theorem lc_79 : LAYC[79]? = some (ps_a 40) := rfl
theorem lc_80 : LAYC[80]? = some (ps_a 40) := rfl
theorem lc_81 : LAYC[81]? = some (ps_o 5 [some (some 82), some (some 83), some (some 84), some (some 85), some (some 86), some (some 87), none, some (some 88), none, none]) := rfl
theorem lc_82 : LAYC[82]? = some (ps_a 12) := rfl
theorem lc_83 : LAYC[83]? = some (ps_a 12) := rfl
theorem lc_84 : LAYC[84]? = some (ps_a 12) := rfl
theorem lc_85 : LAYC[85]? = some (ps_a 12) := rfl
theorem lc_86 : LAYC[86]? = some (ps_a 12) := rfl
theorem lc_87 : LAYC[87]? = some (ps_a 12) := rfl
theorem lc_88 : LAYC[88]? = some (ps_a 12) := rfl
theorem lc_89 : LAYC[89]? = some (ps_o 4 [some (some 26), some (some 90), none, none, none]) := rfl
theorem lc_90 : LAYC[90]? = some (ps_a 6) := rfl
theorem lc_91 : LAYC[91]? = some (ps_a 9) := rfl
theorem lc_92 : LAYC[92]? = some (ps_a 81) := rfl
theorem lc_93 : LAYC[93]? = some (ps_a 7) := rfl
def LAYM : List pm_S := [ps_o 12 [some (some 1), some (some 2), some (some 3), some (some 4), some (some 5), some (some 6), some (some 7), some (some 8), some (some 9), some (some 10), some (some 11), some (some 12), some (some 13), some (some 14), some (some 15), none, none, none, none, none, none, some (some 16), some (some 17), some (some 18), some (some 19), some (some 20), some (some 21), some (some 22), some (some 23), some (some 24), some (some 25), some (some 26), none, some (some 27), none, none], ps_a 7, ps_a 303, ps_a 9, ps_a 9, ps_a 9, ps_a 9, ps_a 9, ps_a 81, ps_a 40, ps_a 40, ps_a 4, ps_a 48, ps_a 8, ps_a 3, ps_a 3, ps_a 12, ps_a 12, ps_a 12, ps_a 12, ps_a 12, ps_a 12, ps_a 28800, ps_a 1080, ps_a 6, ps_a 755, ps_a 755, ps_a 12]
theorem lm_0 : LAYM[0]? = some (ps_o 12 [some (some 1), some (some 2), some (some 3), some (some 4), some (some 5), some (some 6), some (some 7), some (some 8), some (some 9), some (some 10), some (some 11), some (some 12), some (some 13), some (some 14), some (some 15), none, none, none, none, none, none, some (some 16), some (some 17), some (some 18), some (some 19), some (some 20), some (some 21), some (some 22), some (some 23), some (some 24), some (some 25), some (some 26), none, some (some 27), none, none]) := rfl
theorem lm_1 : LAYM[1]? = some (ps_a 7) := rfl
theorem lm_2 : LAYM[2]? = some (ps_a 303) := rfl
theorem lm_3 : LAYM[3]? = some (ps_a 9) := rfl
theorem lm_4 : LAYM[4]? = some (ps_a 9) := rfl
theorem lm_5 : LAYM[5]? = some (ps_a 9) := rfl
theorem lm_6 : LAYM[6]? = some (ps_a 9) := rfl
theorem lm_7 : LAYM[7]? = some (ps_a 9) := rfl
theorem lm_8 : LAYM[8]? = some (ps_a 81) := rfl
theorem lm_9 : LAYM[9]? = some (ps_a 40) := rfl
theorem lm_10 : LAYM[10]? = some (ps_a 40) := rfl
theorem lm_11 : LAYM[11]? = some (ps_a 4) := rfl
theorem lm_12 : LAYM[12]? = some (ps_a 48) := rfl
theorem lm_13 : LAYM[13]? = some (ps_a 8) := rfl
theorem lm_14 : LAYM[14]? = some (ps_a 3) := rfl
theorem lm_15 : LAYM[15]? = some (ps_a 3) := rfl
theorem lm_16 : LAYM[16]? = some (ps_a 12) := rfl
theorem lm_17 : LAYM[17]? = some (ps_a 12) := rfl
theorem lm_18 : LAYM[18]? = some (ps_a 12) := rfl
theorem lm_19 : LAYM[19]? = some (ps_a 12) := rfl
theorem lm_20 : LAYM[20]? = some (ps_a 12) := rfl
theorem lm_21 : LAYM[21]? = some (ps_a 12) := rfl
theorem lm_22 : LAYM[22]? = some (ps_a 28800) := rfl
theorem lm_23 : LAYM[23]? = some (ps_a 1080) := rfl
theorem lm_24 : LAYM[24]? = some (ps_a 6) := rfl
theorem lm_25 : LAYM[25]? = some (ps_a 755) := rfl
theorem lm_26 : LAYM[26]? = some (ps_a 755) := rfl
theorem lm_27 : LAYM[27]? = some (ps_a 12) := rfl
theorem lw_0 {b : Nat} (hb : b = 15 ∨ b = 48) : LAYC[b]? = some (ps_o 10 [some (some 1), some (some (b + 1)), some (some (b + 28)), some (some (b + 2)), some (some (b + 7)), some (some (b + 11)), some (some (b + 22)), none]) := by rcases hb with rfl | rfl <;> rfl
theorem lw_1 {b : Nat} (hb : b = 15 ∨ b = 48) : LAYC[b + 1]? = some (ps_a 9) := by rcases hb with rfl | rfl <;> rfl
theorem lw_2 {b : Nat} (hb : b = 15 ∨ b = 48) : LAYC[b + 2]? = some (ps_o 0 [some (some (b + 3)), some (some (b + 4)), some (some (b + 5)), some (some (b + 6))]) := by rcases hb with rfl | rfl <;> rfl
theorem lw_3 {b : Nat} (hb : b = 15 ∨ b = 48) : LAYC[b + 3]? = some (ps_a 4) := by rcases hb with rfl | rfl <;> rfl
theorem lw_4 {b : Nat} (hb : b = 15 ∨ b = 48) : LAYC[b + 4]? = some (ps_a 4) := by rcases hb with rfl | rfl <;> rfl
theorem lw_5 {b : Nat} (hb : b = 15 ∨ b = 48) : LAYC[b + 5]? = some (ps_a 4) := by rcases hb with rfl | rfl <;> rfl
theorem lw_6 {b : Nat} (hb : b = 15 ∨ b = 48) : LAYC[b + 6]? = some (ps_a 4) := by rcases hb with rfl | rfl <;> rfl
theorem lw_7 {b : Nat} (hb : b = 15 ∨ b = 48) : LAYC[b + 7]? = some (ps_o 3 [some (some (b + 8)), some (some (b + 9)), some (some (b + 10)), none]) := by rcases hb with rfl | rfl <;> rfl
theorem lw_8 {b : Nat} (hb : b = 15 ∨ b = 48) : LAYC[b + 8]? = some (ps_a 4) := by rcases hb with rfl | rfl <;> rfl
theorem lw_9 {b : Nat} (hb : b = 15 ∨ b = 48) : LAYC[b + 9]? = some (ps_a 48) := by rcases hb with rfl | rfl <;> rfl
theorem lw_10 {b : Nat} (hb : b = 15 ∨ b = 48) : LAYC[b + 10]? = some (ps_a 8) := by rcases hb with rfl | rfl <;> rfl
theorem lw_11 {b : Nat} (hb : b = 15 ∨ b = 48) : LAYC[b + 11]? = some (ps_o 6 [some (some (b + 12)), some (some (b + 15)), some (some (b + 16)), some (some (b + 17)), some (some (b + 18)), some (some (b + 19)), some (some (b + 20)), some (some (b + 21)), none, none, none, none]) := by rcases hb with rfl | rfl <;> rfl
theorem lw_12 {b : Nat} (hb : b = 15 ∨ b = 48) : LAYC[b + 12]? = some (ps_o 2 [some (some (b + 13)), some (some (b + 14))]) := by rcases hb with rfl | rfl <;> rfl
theorem lw_13 {b : Nat} (hb : b = 15 ∨ b = 48) : LAYC[b + 13]? = some (ps_a 1920) := by rcases hb with rfl | rfl <;> rfl
theorem lw_14 {b : Nat} (hb : b = 15 ∨ b = 48) : LAYC[b + 14]? = some (ps_a 80) := by rcases hb with rfl | rfl <;> rfl
theorem lw_15 {b : Nat} (hb : b = 15 ∨ b = 48) : LAYC[b + 15]? = some (ps_a 80) := by rcases hb with rfl | rfl <;> rfl
theorem lw_16 {b : Nat} (hb : b = 15 ∨ b = 48) : LAYC[b + 16]? = some (ps_a 80) := by rcases hb with rfl | rfl <;> rfl
theorem lw_17 {b : Nat} (hb : b = 15 ∨ b = 48) : LAYC[b + 17]? = some (ps_a 80) := by rcases hb with rfl | rfl <;> rfl
theorem lw_18 {b : Nat} (hb : b = 15 ∨ b = 48) : LAYC[b + 18]? = some (ps_a 80) := by rcases hb with rfl | rfl <;> rfl
theorem lw_19 {b : Nat} (hb : b = 15 ∨ b = 48) : LAYC[b + 19]? = some (ps_a 80) := by rcases hb with rfl | rfl <;> rfl
theorem lw_20 {b : Nat} (hb : b = 15 ∨ b = 48) : LAYC[b + 20]? = some (ps_a 80) := by rcases hb with rfl | rfl <;> rfl
theorem lw_21 {b : Nat} (hb : b = 15 ∨ b = 48) : LAYC[b + 21]? = some (ps_a 80) := by rcases hb with rfl | rfl <;> rfl
theorem lw_22 {b : Nat} (hb : b = 15 ∨ b = 48) : LAYC[b + 22]? = some (ps_o 8 [some (some (b + 1)), some (some (b + 7)), some (some (b + 11)), some (some (b + 23)), some (some (b + 24)), some (some (b + 25)), some (some (b + 26)), some (some (b + 27)), none]) := by rcases hb with rfl | rfl <;> rfl
theorem lw_23 {b : Nat} (hb : b = 15 ∨ b = 48) : LAYC[b + 23]? = some (ps_a 3) := by rcases hb with rfl | rfl <;> rfl
theorem lw_24 {b : Nat} (hb : b = 15 ∨ b = 48) : LAYC[b + 24]? = some (ps_a 3) := by rcases hb with rfl | rfl <;> rfl
theorem lw_25 {b : Nat} (hb : b = 15 ∨ b = 48) : LAYC[b + 25]? = some (ps_a 3) := by rcases hb with rfl | rfl <;> rfl
theorem lw_26 {b : Nat} (hb : b = 15 ∨ b = 48) : LAYC[b + 26]? = some (ps_a 3) := by rcases hb with rfl | rfl <;> rfl
theorem lw_27 {b : Nat} (hb : b = 15 ∨ b = 48) : LAYC[b + 27]? = some (ps_a 36) := by rcases hb with rfl | rfl <;> rfl
theorem lw_28 {b : Nat} (hb : b = 15 ∨ b = 48) : LAYC[b + 28]? = some (ps_o 1 [some (some 10), some (some (b + 29)), some (some (b + 30)), some (some (b + 31)), some (some (b + 32)), none, none]) := by rcases hb with rfl | rfl <;> rfl
theorem lw_29 {b : Nat} (hb : b = 15 ∨ b = 48) : LAYC[b + 29]? = some (ps_a 40) := by rcases hb with rfl | rfl <;> rfl
theorem lw_30 {b : Nat} (hb : b = 15 ∨ b = 48) : LAYC[b + 30]? = some (ps_a 40) := by rcases hb with rfl | rfl <;> rfl
theorem lw_31 {b : Nat} (hb : b = 15 ∨ b = 48) : LAYC[b + 31]? = some (ps_a 40) := by rcases hb with rfl | rfl <;> rfl
theorem lw_32 {b : Nat} (hb : b = 15 ∨ b = 48) : LAYC[b + 32]? = some (ps_a 40) := by rcases hb with rfl | rfl <;> rfl
theorem lr_3 {i : Int} (h : 0 ≤ i ∧ i < 3) : LAYC[3 + Int.toNat i]? = some (ps_a 101) := by
  have h3 : Int.toNat i = 0 ∨ Int.toNat i = 1 ∨ Int.toNat i = 2 := by omega
  rcases h3 with e | e | e <;> rw [e] <;> rfl
theorem lr_7 {i : Int} (h : 0 ≤ i ∧ i < 3) : LAYC[7 + Int.toNat i]? = some (ps_a 101) := by
  have h3 : Int.toNat i = 0 ∨ Int.toNat i = 1 ∨ Int.toNat i = 2 := by omega
  rcases h3 with e | e | e <;> rw [e] <;> rfl
abbrev mJ6_bitCount_0f7a4 : pm_D := (yJ6_bitCount_0f7a4, cJ6_bitCount_0f7a4, 1, some .int)
abbrev mJ6_compare_7cf53 : pm_D := (yJ6_compare_7cf53, cJ6_compare_7cf53, 2, some .int)
abbrev mJ7_fill_53178 : pm_D := (yJ7_fill_53178, cJ7_fill_53178, 4, none)
abbrev mJ9_abs_0f7a4 : pm_D := (yJ9_abs_0f7a4, cJ9_abs_0f7a4, 1, some .int)
abbrev mJ9_max_7cf53 : pm_D := (yJ9_max_7cf53, cJ9_max_7cf53, 2, some .int)
abbrev mJ9_min_7cf53 : pm_D := (yJ9_min_7cf53, cJ9_min_7cf53, 2, some .int)
abbrev mX0_copyFrom : pm_D := (yX0_copyFrom, cX0_copyFrom, 2, none)
abbrev mX0_end : pm_D := (yX0_end, cX0_end, 3, none)
abbrev mX0_init : pm_D := (yX0_init, cX0_init, 1, none)
abbrev mX0_isEmpty : pm_D := (yX0_isEmpty, cX0_isEmpty, 2, some .boolean)
abbrev mX0_take : pm_D := (yX0_take, cX0_take, 5, none)
abbrev mX0_work : pm_D := (yX0_work, cX0_work, 5, some .int)
abbrev mX10_become : pm_D := (yX10_become, cX10_become, 2, none)
abbrev mX10_init : pm_D := (yX10_init, cX10_init, 3, none)
abbrev mX10_pass : pm_D := (yX10_pass, cX10_pass, 3, none)
abbrev mX10_passOne : pm_D := (yX10_passOne, cX10_passOne, 4, none)
abbrev mX10_pulpOfAll : pm_D := (yX10_pulpOfAll, cX10_pulpOfAll, 3, some .int)
abbrev mX10_today : pm_D := (yX10_today, cX10_today, 1, some .int)
abbrev mX11_beaterOf : pm_D := (yX11_beaterOf, cX11_beaterOf, 4, some .int)
abbrev mX11_best : pm_D := (yX11_best, cX11_best, 3, some .int)
abbrev mX11_bestWorth : pm_D := (yX11_bestWorth, cX11_bestWorth, 3, some .int)
abbrev mX11_copyRow : pm_D := (yX11_copyRow, cX11_copyRow, 2, none)
abbrev mX11_count : pm_D := (yX11_count, cX11_count, 2, some .int)
abbrev mX11_day : pm_D := (yX11_day, cX11_day, 5, some .int)
abbrev mX11_dayOf : pm_D := (yX11_dayOf, cX11_dayOf, 3, some .int)
abbrev mX11_duty : pm_D := (yX11_duty, cX11_duty, 4, some .int)
abbrev mX11_fill : pm_D := (yX11_fill, cX11_fill, 5, some .int)
abbrev mX11_foretell : pm_D := (yX11_foretell, cX11_foretell, 3, some .int)
abbrev mX11_furnish : pm_D := (yX11_furnish, cX11_furnish, 4, some .int)
abbrev mX11_heap : pm_D := (yX11_heap, cX11_heap, 3, some .int)
abbrev mX11_heapOf : pm_D := (yX11_heapOf, cX11_heapOf, 4, some .int)
abbrev mX11_hides : pm_D := (yX11_hides, cX11_hides, 2, some .int)
abbrev mX11_hours : pm_D := (yX11_hours, cX11_hours, 3, some .int)
abbrev mX11_init : pm_D := (yX11_init, cX11_init, 1, none)
abbrev mX11_isMould : pm_D := (yX11_isMould, cX11_isMould, 2, some .boolean)
abbrev mX11_isNumber : pm_D := (yX11_isNumber, cX11_isNumber, 2, some .boolean)
abbrev mX11_isWeight : pm_D := (yX11_isWeight, cX11_isWeight, 1, some .boolean)
abbrev mX11_kind : pm_D := (yX11_kind, cX11_kind, 5, some .int)
abbrev mX11_lies : pm_D := (yX11_lies, cX11_lies, 2, some .int)
abbrev mX11_load : pm_D := (yX11_load, cX11_load, 5, some .int)
abbrev mX11_loft : pm_D := (yX11_loft, cX11_loft, 3, some .int)
abbrev mX11_mark : pm_D := (yX11_mark, cX11_mark, 4, some .int)
abbrev mX11_mouldOf : pm_D := (yX11_mouldOf, cX11_mouldOf, 3, some .int)
abbrev mX11_nearest : pm_D := (yX11_nearest, cX11_nearest, 4, some .int)
abbrev mX11_oldA : pm_D := (yX11_oldA, cX11_oldA, 4, some .int)
abbrev mX11_oldB : pm_D := (yX11_oldB, cX11_oldB, 4, some .int)
abbrev mX11_order : pm_D := (yX11_order, cX11_order, 6, some .int)
abbrev mX11_orderOf : pm_D := (yX11_orderOf, cX11_orderOf, 3, some .int)
abbrev mX11_pair : pm_D := (yX11_pair, cX11_pair, 2, some .int)
abbrev mX11_planRefusal : pm_D := (yX11_planRefusal, cX11_planRefusal, 2, some .int)
abbrev mX11_postOf : pm_D := (yX11_postOf, cX11_postOf, 4, some .int)
abbrev mX11_rags : pm_D := (yX11_rags, cX11_rags, 3, some .int)
abbrev mX11_readOld : pm_D := (yX11_readOld, cX11_readOld, 5, some .int)
abbrev mX11_refuse : pm_D := (yX11_refuse, cX11_refuse, 2, some .int)
abbrev mX11_sheets : pm_D := (yX11_sheets, cX11_sheets, 3, some .int)
abbrev mX11_shelfOf : pm_D := (yX11_shelfOf, cX11_shelfOf, 2, some .int)
abbrev mX11_size : pm_D := (yX11_size, cX11_size, 2, some .int)
abbrev mX11_sizeAll : pm_D := (yX11_sizeAll, cX11_sizeAll, 3, some .int)
abbrev mX11_sizePost : pm_D := (yX11_sizePost, cX11_sizePost, 4, some .int)
abbrev mX11_span : pm_D := (yX11_span, cX11_span, 4, some .int)
abbrev mX11_vat : pm_D := (yX11_vat, cX11_vat, 3, some .int)
abbrev mX11_vatOf : pm_D := (yX11_vatOf, cX11_vatOf, 4, some .int)
abbrev mX11_when : pm_D := (yX11_when, cX11_when, 4, some .int)
abbrev mX11_wire : pm_D := (yX11_wire, cX11_wire, 5, some .int)
abbrev mX12_age : pm_D := (yX12_age, cX12_age, 2, some .int)
abbrev mX12_beaterOf : pm_D := (yX12_beaterOf, cX12_beaterOf, 4, some .int)
abbrev mX12_begins : pm_D := (yX12_begins, cX12_begins, 2, none)
abbrev mX12_best : pm_D := (yX12_best, cX12_best, 3, some .int)
abbrev mX12_bestWorth : pm_D := (yX12_bestWorth, cX12_bestWorth, 3, some .int)
abbrev mX12_bests : pm_D := (yX12_bests, cX12_bests, 14, some .int)
abbrev mX12_count : pm_D := (yX12_count, cX12_count, 2, some .int)
abbrev mX12_day : pm_D := (yX12_day, cX12_day, 6, some .int)
abbrev mX12_dayOf : pm_D := (yX12_dayOf, cX12_dayOf, 3, some .int)
abbrev mX12_dried : pm_D := (yX12_dried, cX12_dried, 1, some .int)
abbrev mX12_duty : pm_D := (yX12_duty, cX12_duty, 5, some .int)
abbrev mX12_ends : pm_D := (yX12_ends, cX12_ends, 2, none)
abbrev mX12_far : pm_D := (yX12_far, cX12_far, 3, some .int)
abbrev mX12_fill : pm_D := (yX12_fill, cX12_fill, 4, some .int)
abbrev mX12_foretell : pm_D := (yX12_foretell, cX12_foretell, 6, some .int)
abbrev mX12_furnish : pm_D := (yX12_furnish, cX12_furnish, 4, some .int)
abbrev mX12_hasPulp : pm_D := (yX12_hasPulp, cX12_hasPulp, 2, some .boolean)
abbrev mX12_heap : pm_D := (yX12_heap, cX12_heap, 4, some .int)
abbrev mX12_heapOf : pm_D := (yX12_heapOf, cX12_heapOf, 3, some .int)
abbrev mX12_hides : pm_D := (yX12_hides, cX12_hides, 3, some .int)
abbrev mX12_hour : pm_D := (yX12_hour, cX12_hour, 6, none)
abbrev mX12_hours : pm_D := (yX12_hours, cX12_hours, 5, some .int)
abbrev mX12_inState : pm_D := (yX12_inState, cX12_inState, 4, some .int)
abbrev mX12_init : pm_D := (yX12_init, cX12_init, 2, none)
abbrev mX12_isBegun : pm_D := (yX12_isBegun, cX12_isBegun, 4, some .boolean)
abbrev mX12_isBy : pm_D := (yX12_isBy, cX12_isBy, 5, some .boolean)
abbrev mX12_isIn : pm_D := (yX12_isIn, cX12_isIn, 2, some .boolean)
abbrev mX12_isKind : pm_D := (yX12_isKind, cX12_isKind, 2, some .boolean)
abbrev mX12_isRipe : pm_D := (yX12_isRipe, cX12_isRipe, 2, some .boolean)
abbrev mX12_isWeight : pm_D := (yX12_isWeight, cX12_isWeight, 1, some .boolean)
abbrev mX12_kind : pm_D := (yX12_kind, cX12_kind, 5, some .int)
abbrev mX12_lies : pm_D := (yX12_lies, cX12_lies, 5, some .int)
abbrev mX12_load : pm_D := (yX12_load, cX12_load, 5, some .int)
abbrev mX12_loft : pm_D := (yX12_loft, cX12_loft, 4, some .int)
abbrev mX12_mark : pm_D := (yX12_mark, cX12_mark, 4, some .int)
abbrev mX12_mouldOf : pm_D := (yX12_mouldOf, cX12_mouldOf, 3, some .int)
abbrev mX12_mouldOfSheet : pm_D := (yX12_mouldOfSheet, cX12_mouldOfSheet, 2, some .int)
abbrev mX12_nearest : pm_D := (yX12_nearest, cX12_nearest, 7, some .int)
abbrev mX12_oldA : pm_D := (yX12_oldA, cX12_oldA, 4, some .int)
abbrev mX12_oldB : pm_D := (yX12_oldB, cX12_oldB, 4, some .int)
abbrev mX12_olds : pm_D := (yX12_olds, cX12_olds, 5, some .int)
abbrev mX12_order : pm_D := (yX12_order, cX12_order, 6, some .int)
abbrev mX12_orderOf : pm_D := (yX12_orderOf, cX12_orderOf, 3, some .int)
abbrev mX12_pair : pm_D := (yX12_pair, cX12_pair, 3, some .int)
abbrev mX12_post : pm_D := (yX12_post, cX12_post, 3, some .int)
abbrev mX12_postOf : pm_D := (yX12_postOf, cX12_postOf, 3, some .int)
abbrev mX12_put : pm_D := (yX12_put, cX12_put, 4, none)
abbrev mX12_rags : pm_D := (yX12_rags, cX12_rags, 4, some .int)
abbrev mX12_reckoned : pm_D := (yX12_reckoned, cX12_reckoned, 6, some .int)
abbrev mX12_refuse : pm_D := (yX12_refuse, cX12_refuse, 2, some .int)
abbrev mX12_sheet : pm_D := (yX12_sheet, cX12_sheet, 7, none)
abbrev mX12_sheets : pm_D := (yX12_sheets, cX12_sheets, 3, some .int)
abbrev mX12_size : pm_D := (yX12_size, cX12_size, 2, some .int)
abbrev mX12_sizeAll : pm_D := (yX12_sizeAll, cX12_sizeAll, 4, some .int)
abbrev mX12_sizes : pm_D := (yX12_sizes, cX12_sizes, 4, some .int)
abbrev mX12_span : pm_D := (yX12_span, cX12_span, 8, some .int)
abbrev mX12_today : pm_D := (yX12_today, cX12_today, 1, some .int)
abbrev mX12_vat : pm_D := (yX12_vat, cX12_vat, 5, some .int)
abbrev mX12_vatOf : pm_D := (yX12_vatOf, cX12_vatOf, 3, some .int)
abbrev mX12_wanders : pm_D := (yX12_wanders, cX12_wanders, 4, none)
abbrev mX12_when : pm_D := (yX12_when, cX12_when, 4, some .int)
abbrev mX12_wire : pm_D := (yX12_wire, cX12_wire, 6, some .int)
abbrev mX12_works : pm_D := (yX12_works, cX12_works, 5, none)
abbrev mX12_wrong : pm_D := (yX12_wrong, cX12_wrong, 3, some .int)
abbrev mX1_ageOf : pm_D := (yX1_ageOf, cX1_ageOf, 3, some .int)
abbrev mX1_copyFrom : pm_D := (yX1_copyFrom, cX1_copyFrom, 2, none)
abbrev mX1_init : pm_D := (yX1_init, cX1_init, 2, none)
abbrev mX1_isRipe : pm_D := (yX1_isRipe, cX1_isRipe, 3, some .boolean)
abbrev mX1_lay : pm_D := (yX1_lay, cX1_lay, 4, some .int)
abbrev mX1_spoilOld : pm_D := (yX1_spoilOld, cX1_spoilOld, 4, none)
abbrev mX2_groupFirst : pm_D := (yX2_groupFirst, cX2_groupFirst, 3, some .int)
abbrev mX2_groupMark : pm_D := (yX2_groupMark, cX2_groupMark, 4, some .int)
abbrev mX2_groupSheets : pm_D := (yX2_groupSheets, cX2_groupSheets, 3, some .int)
abbrev mX2_init : pm_D := (yX2_init, cX2_init, 1, none)
abbrev mX2_keep : pm_D := (yX2_keep, cX2_keep, 8, none)
abbrev mX2_markOf : pm_D := (yX2_markOf, cX2_markOf, 5, some .int)
abbrev mX3_addPair : pm_D := (yX3_addPair, cX3_addPair, 3, some .int)
abbrev mX3_copyFrom : pm_D := (yX3_copyFrom, cX3_copyFrom, 2, none)
abbrev mX3_countSheet : pm_D := (yX3_countSheet, cX3_countSheet, 5, none)
abbrev mX3_init : pm_D := (yX3_init, cX3_init, 1, none)
abbrev mX3_setWire : pm_D := (yX3_setWire, cX3_setWire, 4, none)
abbrev mX3_wireOf : pm_D := (yX3_wireOf, cX3_wireOf, 3, some .int)
abbrev mX4_compare : pm_D := (yX4_compare, cX4_compare, 4, none)
abbrev mX4_countNear : pm_D := (yX4_countNear, cX4_countNear, 5, some .int)
abbrev mX4_differsBy : pm_D := (yX4_differsBy, cX4_differsBy, 4, some .int)
abbrev mX4_findNearest : pm_D := (yX4_findNearest, cX4_findNearest, 3, none)
abbrev mX4_hasNear : pm_D := (yX4_hasNear, cX4_hasNear, 5, some .boolean)
abbrev mX4_hourOf : pm_D := (yX4_hourOf, cX4_hourOf, 6, some .int)
abbrev mX4_init : pm_D := (yX4_init, cX4_init, 2, none)
abbrev mX4_liesBy : pm_D := (yX4_liesBy, cX4_liesBy, 5, some .boolean)
abbrev mX4_nearnessOf : pm_D := (yX4_nearnessOf, cX4_nearnessOf, 5, some .int)
abbrev mX5_coinsFor : pm_D := (yX5_coinsFor, cX5_coinsFor, 5, some .int)
abbrev mX5_init : pm_D := (yX5_init, cX5_init, 1, none)
abbrev mX5_isBetter : pm_D := (yX5_isBetter, cX5_isBetter, 4, some .boolean)
abbrev mX5_isOpen : pm_D := (yX5_isOpen, cX5_isOpen, 2, some .boolean)
abbrev mX5_open : pm_D := (yX5_open, cX5_open, 3, some .int)
abbrev mX5_plan : pm_D := (yX5_plan, cX5_plan, 5, none)
abbrev mX5_sortByDue : pm_D := (yX5_sortByDue, cX5_sortByDue, 4, some .int)
abbrev mX5_take : pm_D := (yX5_take, cX5_take, 6, some .int)
abbrev mX5_weigh : pm_D := (yX5_weigh, cX5_weigh, 10, none)
abbrev mX6_add : pm_D := (yX6_add, cX6_add, 4, none)
abbrev mX6_copyFrom : pm_D := (yX6_copyFrom, cX6_copyFrom, 2, none)
abbrev mX6_dryHanging : pm_D := (yX6_dryHanging, cX6_dryHanging, 4, none)
abbrev mX6_finish : pm_D := (yX6_finish, cX6_finish, 3, some .int)
abbrev mX6_hangWet : pm_D := (yX6_hangWet, cX6_hangWet, 2, none)
abbrev mX6_hanging : pm_D := (yX6_hanging, cX6_hanging, 1, some .int)
abbrev mX6_init : pm_D := (yX6_init, cX6_init, 1, none)
abbrev mX6_stateOf : pm_D := (yX6_stateOf, cX6_stateOf, 2, some .int)
abbrev mX7_init : pm_D := (yX7_init, cX7_init, 1, none)
abbrev mX8_canMake : pm_D := (yX8_canMake, cX8_canMake, 2, some .boolean)
abbrev mX8_copyFrom : pm_D := (yX8_copyFrom, cX8_copyFrom, 2, none)
abbrev mX8_endPost : pm_D := (yX8_endPost, cX8_endPost, 3, none)
abbrev mX8_init : pm_D := (yX8_init, cX8_init, 4, none)
abbrev mX8_isPairAtPost : pm_D := (yX8_isPairAtPost, cX8_isPairAtPost, 3, some .boolean)
abbrev mX8_isPairElsewhere : pm_D := (yX8_isPairElsewhere, cX8_isPairElsewhere, 4, some .boolean)
abbrev mX8_makeSheet : pm_D := (yX8_makeSheet, cX8_makeSheet, 2, none)
abbrev mX8_makeSheets : pm_D := (yX8_makeSheets, cX8_makeSheets, 4, none)
abbrev mX8_work : pm_D := (yX8_work, cX8_work, 5, none)
abbrev mX9_between : pm_D := (yX9_between, cX9_between, 3, some .int)
abbrev mX9_init : pm_D := (yX9_init, cX9_init, 1, none)
abbrev mX9_on : pm_D := (yX9_on, cX9_on, 3, some .int)
abbrev mX9_reckon : pm_D := (yX9_reckon, cX9_reckon, 6, none)
abbrev mX9_tell : pm_D := (yX9_tell, cX9_tell, 4, none)
theorem cok_X0 : pm_Cok (RX0, TX0, 4) := ⟨by decide +kernel, nmX0, tyX0, tyX0_ok⟩
theorem cok_X1 : pm_Cok (RX1, TX1, 7) := ⟨by decide +kernel, nmX1, tyX1, tyX1_ok⟩
theorem cok_X2 : pm_Cok (RX2, TX2, 2) := ⟨by decide +kernel, nmX2, tyX2, tyX2_ok⟩
theorem cok_X3 : pm_Cok (RX3, TX3, 4) := ⟨by decide +kernel, nmX3, tyX3, tyX3_ok⟩
theorem cok_X4 : pm_Cok (RX4, TX4, 5) := ⟨by decide +kernel, nmX4, tyX4, tyX4_ok⟩
theorem cok_X5 : pm_Cok (RX5, TX5, 10) := ⟨by decide +kernel, nmX5, tyX5, tyX5_ok⟩
theorem cok_X6 : pm_Cok (RX6, TX6, 12) := ⟨by decide +kernel, nmX6, tyX6, tyX6_ok⟩
theorem cok_X7 : pm_Cok (RX7, TX7, 4) := ⟨by decide +kernel, nmX7, tyX7, tyX7_ok⟩
theorem cok_X8 : pm_Cok (RX8, TX8, 9) := ⟨by decide +kernel, nmX8, tyX8, tyX8_ok⟩
theorem cok_X9 : pm_Cok (RX9, TX9, 2) := ⟨by decide +kernel, nmX9, tyX9, tyX9_ok⟩
theorem cok_X10 : pm_Cok (RX10, TX10, 8) := ⟨by decide +kernel, nmX10, tyX10, tyX10_ok⟩
theorem cok_X11 : pm_Cok (RX11, TX11, 11) := ⟨by decide +kernel, nmX11, tyX11, tyX11_ok⟩
theorem cok_X12 : pm_Cok (RX12, TX12, 36) := ⟨by decide +kernel, nmX12, tyX12, tyX12_ok⟩
