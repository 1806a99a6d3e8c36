def fX5_take (x1 : Int) (x2 : Int) (x3 : Int) (x4 : Int) (x5 : Int) (σ : pm_M) : Option (Int × pm_M) :=
  pm_g (0 ≤ (wr (σ 81 6)) ∧ (wr (σ 81 6)) < 12) (pm_g (0 ≤ (wr ((pm_up σ 82 (Int.toNat (wr (σ 81 6))) x1) 81 6)) ∧ (wr ((pm_up σ 82 (Int.toNat (wr (σ 81 6))) x1) 81 6)) < 12) (pm_g (0 ≤ (wr ((pm_up (pm_up σ 82 (Int.toNat (wr (σ 81 6))) x1) 83 (Int.toNat (wr ((pm_up σ 82 (Int.toNat (wr (σ 81 6))) x1) 81 6))) x2) 81 6)) ∧ (wr ((pm_up (pm_up σ 82 (Int.toNat (wr (σ 81 6))) x1) 83 (Int.toNat (wr ((pm_up σ 82 (Int.toNat (wr (σ 81 6))) x1) 81 6))) x2) 81 6)) < 12) (pm_g (0 ≤ (wr ((pm_up (pm_up (pm_up σ 82 (Int.toNat (wr (σ 81 6))) x1) 83 (Int.toNat (wr ((pm_up σ 82 (Int.toNat (wr (σ 81 6))) x1) 81 6))) x2) 84 (Int.toNat (wr ((pm_up (pm_up σ 82 (Int.toNat (wr (σ 81 6))) x1) 83 (Int.toNat (wr ((pm_up σ 82 (Int.toNat (wr (σ 81 6))) x1) 81 6))) x2) 81 6))) x3) 81 6)) ∧ (wr ((pm_up (pm_up (pm_up σ 82 (Int.toNat (wr (σ 81 6))) x1) 83 (Int.toNat (wr ((pm_up σ 82 (Int.toNat (wr (σ 81 6))) x1) 81 6))) x2) 84 (Int.toNat (wr ((pm_up (pm_up σ 82 (Int.toNat (wr (σ 81 6))) x1) 83 (Int.toNat (wr ((pm_up σ 82 (Int.toNat (wr (σ 81 6))) x1) 81 6))) x2) 81 6))) x3) 81 6)) < 12) (pm_g (0 ≤ (wr ((pm_up (pm_up (pm_up (pm_up σ 82 (Int.toNat (wr (σ 81 6))) x1) 83 (Int.toNat (wr ((pm_up σ 82 (Int.toNat (wr (σ 81 6))) x1) 81 6))) x2) 84 (Int.toNat (wr ((pm_up (pm_up σ 82 (Int.toNat (wr (σ 81 6))) x1) 83 (Int.toNat (wr ((pm_up σ 82 (Int.toNat (wr (σ 81 6))) x1) 81 6))) x2) 81 6))) x3) 85 (Int.toNat (wr ((pm_up (pm_up (pm_up σ 82 (Int.toNat (wr (σ 81 6))) x1) 83 (Int.toNat (wr ((pm_up σ 82 (Int.toNat (wr (σ 81 6))) x1) 81 6))) x2) 84 (Int.toNat (wr ((pm_up (pm_up σ 82 (Int.toNat (wr (σ 81 6))) x1) 83 (Int.toNat (wr ((pm_up σ 82 (Int.toNat (wr (σ 81 6))) x1) 81 6))) x2) 81 6))) x3) 81 6))) x4) 81 6)) ∧ (wr ((pm_up (pm_up (pm_up (pm_up σ 82 (Int.toNat (wr (σ 81 6))) x1) 83 (Int.toNat (wr ((pm_up σ 82 (Int.toNat (wr (σ 81 6))) x1) 81 6))) x2) 84 (Int.toNat (wr ((pm_up (pm_up σ 82 (Int.toNat (wr (σ 81 6))) x1) 83 (Int.toNat (wr ((pm_up σ 82 (Int.toNat (wr (σ 81 6))) x1) 81 6))) x2) 81 6))) x3) 85 (Int.toNat (wr ((pm_up (pm_up (pm_up σ 82 (Int.toNat (wr (σ 81 6))) x1) 83 (Int.toNat (wr ((pm_up σ 82 (Int.toNat (wr (σ 81 6))) x1) 81 6))) x2) 84 (Int.toNat (wr ((pm_up (pm_up σ 82 (Int.toNat (wr (σ 81 6))) x1) 83 (Int.toNat (wr ((pm_up σ 82 (Int.toNat (wr (σ 81 6))) x1) 81 6))) x2) 81 6))) x3) 81 6))) x4) 81 6)) < 12) (pm_g (0 ≤ (wr ((pm_up (pm_up (pm_up (pm_up (pm_up σ 82 (Int.toNat (wr (σ 81 6))) x1) 83 (Int.toNat (wr ((pm_up σ 82 (Int.toNat (wr (σ 81 6))) x1) 81 6))) x2) 84 (Int.toNat (wr ((pm_up (pm_up σ 82 (Int.toNat (wr (σ 81 6))) x1) 83 (Int.toNat (wr ((pm_up σ 82 (Int.toNat (wr (σ 81 6))) x1) 81 6))) x2) 81 6))) x3) 85 (Int.toNat (wr ((pm_up (pm_up (pm_up σ 82 (Int.toNat (wr (σ 81 6))) x1) 83 (Int.toNat (wr ((pm_up σ 82 (Int.toNat (wr (σ 81 6))) x1) 81 6))) x2) 84 (Int.toNat (wr ((pm_up (pm_up σ 82 (Int.toNat (wr (σ 81 6))) x1) 83 (Int.toNat (wr ((pm_up σ 82 (Int.toNat (wr (σ 81 6))) x1) 81 6))) x2) 81 6))) x3) 81 6))) x4) 86 (Int.toNat (wr ((pm_up (pm_up (pm_up (pm_up σ 82 (Int.toNat (wr (σ 81 6))) x1) 83 (Int.toNat (wr ((pm_up σ 82 (Int.toNat (wr (σ 81 6))) x1) 81 6))) x2) 84 (Int.toNat (wr ((pm_up (pm_up σ 82 (Int.toNat (wr (σ 81 6))) x1) 83 (Int.toNat (wr ((pm_up σ 82 (Int.toNat (wr (σ 81 6))) x1) 81 6))) x2) 81 6))) x3) 85 (Int.toNat (wr ((pm_up (pm_up (pm_up σ 82 (Int.toNat (wr (σ 81 6))) x1) 83 (Int.toNat (wr ((pm_up σ 82 (Int.toNat (wr (σ 81 6))) x1) 81 6))) x2) 84 (Int.toNat (wr ((pm_up (pm_up σ 82 (Int.toNat (wr (σ 81 6))) x1) 83 (Int.toNat (wr ((pm_up σ 82 (Int.toNat (wr (σ 81 6))) x1) 81 6))) x2) 81 6))) x3) 81 6))) x4) 81 6))) x5) 81 6)) ∧ (wr ((pm_up (pm_up (pm_up (pm_up (pm_up σ 82 (Int.toNat (wr (σ 81 6))) x1) 83 (Int.toNat (wr ((pm_up σ 82 (Int.toNat (wr (σ 81 6))) x1) 81 6))) x2) 84 (Int.toNat (wr ((pm_up (pm_up σ 82 (Int.toNat (wr (σ 81 6))) x1) 83 (Int.toNat (wr ((pm_up σ 82 (Int.toNat (wr (σ 81 6))) x1) 81 6))) x2) 81 6))) x3) 85 (Int.toNat (wr ((pm_up (pm_up (pm_up σ 82 (Int.toNat (wr (σ 81 6))) x1) 83 (Int.toNat (wr ((pm_up σ 82 (Int.toNat (wr (σ 81 6))) x1) 81 6))) x2) 84 (Int.toNat (wr ((pm_up (pm_up σ 82 (Int.toNat (wr (σ 81 6))) x1) 83 (Int.toNat (wr ((pm_up σ 82 (Int.toNat (wr (σ 81 6))) x1) 81 6))) x2) 81 6))) x3) 81 6))) x4) 86 (Int.toNat (wr ((pm_up (pm_up (pm_up (pm_up σ 82 (Int.toNat (wr (σ 81 6))) x1) 83 (Int.toNat (wr ((pm_up σ 82 (Int.toNat (wr (σ 81 6))) x1) 81 6))) x2) 84 (Int.toNat (wr ((pm_up (pm_up σ 82 (Int.toNat (wr (σ 81 6))) x1) 83 (Int.toNat (wr ((pm_up σ 82 (Int.toNat (wr (σ 81 6))) x1) 81 6))) x2) 81 6))) x3) 85 (Int.toNat (wr ((pm_up (pm_up (pm_up σ 82 (Int.toNat (wr (σ 81 6))) x1) 83 (Int.toNat (wr ((pm_up σ 82 (Int.toNat (wr (σ 81 6))) x1) 81 6))) x2) 84 (Int.toNat (wr ((pm_up (pm_up σ 82 (Int.toNat (wr (σ 81 6))) x1) 83 (Int.toNat (wr ((pm_up σ 82 (Int.toNat (wr (σ 81 6))) x1) 81 6))) x2) 81 6))) x3) 81 6))) x4) 81 6))) x5) 81 6)) < 12) (some ((((pm_up (pm_up (pm_up (pm_up (pm_up (pm_up (pm_up σ 82 (Int.toNat (wr (σ 81 6))) x1) 83 (Int.toNat (wr ((pm_up σ 82 (Int.toNat (wr (σ 81 6))) x1) 81 6))) x2) 84 (Int.toNat (wr ((pm_up (pm_up σ 82 (Int.toNat (wr (σ 81 6))) x1) 83 (Int.toNat (wr ((pm_up σ 82 (Int.toNat (wr (σ 81 6))) x1) 81 6))) x2) 81 6))) x3) 85 (Int.toNat (wr ((pm_up (pm_up (pm_up σ 82 (Int.toNat (wr (σ 81 6))) x1) 83 (Int.toNat (wr ((pm_up σ 82 (Int.toNat (wr (σ 81 6))) x1) 81 6))) x2) 84 (Int.toNat (wr ((pm_up (pm_up σ 82 (Int.toNat (wr (σ 81 6))) x1) 83 (Int.toNat (wr ((pm_up σ 82 (Int.toNat (wr (σ 81 6))) x1) 81 6))) x2) 81 6))) x3) 81 6))) x4) 86 (Int.toNat (wr ((pm_up (pm_up (pm_up (pm_up σ 82 (Int.toNat (wr (σ 81 6))) x1) 83 (Int.toNat (wr ((pm_up σ 82 (Int.toNat (wr (σ 81 6))) x1) 81 6))) x2) 84 (Int.toNat (wr ((pm_up (pm_up σ 82 (Int.toNat (wr (σ 81 6))) x1) 83 (Int.toNat (wr ((pm_up σ 82 (Int.toNat (wr (σ 81 6))) x1) 81 6))) x2) 81 6))) x3) 85 (Int.toNat (wr ((pm_up (pm_up (pm_up σ 82 (Int.toNat (wr (σ 81 6))) x1) 83 (Int.toNat (wr ((pm_up σ 82 (Int.toNat (wr (σ 81 6))) x1) 81 6))) x2) 84 (Int.toNat (wr ((pm_up (pm_up σ 82 (Int.toNat (wr (σ 81 6))) x1) 83 (Int.toNat (wr ((pm_up σ 82 (Int.toNat (wr (σ 81 6))) x1) 81 6))) x2) 81 6))) x3) 81 6))) x4) 81 6))) x5) 87 (Int.toNat (wr ((pm_up (pm_up (pm_up (pm_up (pm_up σ 82 (Int.toNat (wr (σ 81 6))) x1) 83 (Int.toNat (wr ((pm_up σ 82 (Int.toNat (wr (σ 81 6))) x1) 81 6))) x2) 84 (Int.toNat (wr ((pm_up (pm_up σ 82 (Int.toNat (wr (σ 81 6))) x1) 83 (Int.toNat (wr ((pm_up σ 82 (Int.toNat (wr (σ 81 6))) x1) 81 6))) x2) 81 6))) x3) 85 (Int.toNat (wr ((pm_up (pm_up (pm_up σ 82 (Int.toNat (wr (σ 81 6))) x1) 83 (Int.toNat (wr ((pm_up σ 82 (Int.toNat (wr (σ 81 6))) x1) 81 6))) x2) 84 (Int.toNat (wr ((pm_up (pm_up σ 82 (Int.toNat (wr (σ 81 6))) x1) 83 (Int.toNat (wr ((pm_up σ 82 (Int.toNat (wr (σ 81 6))) x1) 81 6))) x2) 81 6))) x3) 81 6))) x4) 86 (Int.toNat (wr ((pm_up (pm_up (pm_up (pm_up σ 82 (Int.toNat (wr (σ 81 6))) x1) 83 (Int.toNat (wr ((pm_up σ 82 (Int.toNat (wr (σ 81 6))) x1) 81 6))) x2) 84 (Int.toNat (wr ((pm_up (pm_up σ 82 (Int.toNat (wr (σ 81 6))) x1) 83 (Int.toNat (wr ((pm_up σ 82 (Int.toNat (wr (σ 81 6))) x1) 81 6))) x2) 81 6))) x3) 85 (Int.toNat (wr ((pm_up (pm_up (pm_up σ 82 (Int.toNat (wr (σ 81 6))) x1) 83 (Int.toNat (wr ((pm_up σ 82 (Int.toNat (wr (σ 81 6))) x1) 81 6))) x2) 84 (Int.toNat (wr ((pm_up (pm_up σ 82 (Int.toNat (wr (σ 81 6))) x1) 83 (Int.toNat (wr ((pm_up σ 82 (Int.toNat (wr (σ 81 6))) x1) 81 6))) x2) 81 6))) x3) 81 6))) x4) 81 6))) x5) 81 6))) (-9)) 81 6 (((pm_up (pm_up (pm_up (pm_up (pm_up (pm_up σ 82 (Int.toNat (wr (σ 81 6))) x1) 83 (Int.toNat (wr ((pm_up σ 82 (Int.toNat (wr (σ 81 6))) x1) 81 6))) x2) 84 (Int.toNat (wr ((pm_up (pm_up σ 82 (Int.toNat (wr (σ 81 6))) x1) 83 (Int.toNat (wr ((pm_up σ 82 (Int.toNat (wr (σ 81 6))) x1) 81 6))) x2) 81 6))) x3) 85 (Int.toNat (wr ((pm_up (pm_up (pm_up σ 82 (Int.toNat (wr (σ 81 6))) x1) 83 (Int.toNat (wr ((pm_up σ 82 (Int.toNat (wr (σ 81 6))) x1) 81 6))) x2) 84 (Int.toNat (wr ((pm_up (pm_up σ 82 (Int.toNat (wr (σ 81 6))) x1) 83 (Int.toNat (wr ((pm_up σ 82 (Int.toNat (wr (σ 81 6))) x1) 81 6))) x2) 81 6))) x3) 81 6))) x4) 86 (Int.toNat (wr ((pm_up (pm_up (pm_up (pm_up σ 82 (Int.toNat (wr (σ 81 6))) x1) 83 (Int.toNat (wr ((pm_up σ 82 (Int.toNat (wr (σ 81 6))) x1) 81 6))) x2) 84 (Int.toNat (wr ((pm_up (pm_up σ 82 (Int.toNat (wr (σ 81 6))) x1) 83 (Int.toNat (wr ((pm_up σ 82 (Int.toNat (wr (σ 81 6))) x1) 81 6))) x2) 81 6))) x3) 85 (Int.toNat (wr ((pm_up (pm_up (pm_up σ 82 (Int.toNat (wr (σ 81 6))) x1) 83 (Int.toNat (wr ((pm_up σ 82 (Int.toNat (wr (σ 81 6))) x1) 81 6))) x2) 84 (Int.toNat (wr ((pm_up (pm_up σ 82 (Int.toNat (wr (σ 81 6))) x1) 83 (Int.toNat (wr ((pm_up σ 82 (Int.toNat (wr (σ 81 6))) x1) 81 6))) x2) 81 6))) x3) 81 6))) x4) 81 6))) x5) 87 (Int.toNat (wr ((pm_up (pm_up (pm_up (pm_up (pm_up σ 82 (Int.toNat (wr (σ 81 6))) x1) 83 (Int.toNat (wr ((pm_up σ 82 (Int.toNat (wr (σ 81 6))) x1) 81 6))) x2) 84 (Int.toNat (wr ((pm_up (pm_up σ 82 (Int.toNat (wr (σ 81 6))) x1) 83 (Int.toNat (wr ((pm_up σ 82 (Int.toNat (wr (σ 81 6))) x1) 81 6))) x2) 81 6))) x3) 85 (Int.toNat (wr ((pm_up (pm_up (pm_up σ 82 (Int.toNat (wr (σ 81 6))) x1) 83 (Int.toNat (wr ((pm_up σ 82 (Int.toNat (wr (σ 81 6))) x1) 81 6))) x2) 84 (Int.toNat (wr ((pm_up (pm_up σ 82 (Int.toNat (wr (σ 81 6))) x1) 83 (Int.toNat (wr ((pm_up σ 82 (Int.toNat (wr (σ 81 6))) x1) 81 6))) x2) 81 6))) x3) 81 6))) x4) 86 (Int.toNat (wr ((pm_up (pm_up (pm_up (pm_up σ 82 (Int.toNat (wr (σ 81 6))) x1) 83 (Int.toNat (wr ((pm_up σ 82 (Int.toNat (wr (σ 81 6))) x1) 81 6))) x2) 84 (Int.toNat (wr ((pm_up (pm_up σ 82 (Int.toNat (wr (σ 81 6))) x1) 83 (Int.toNat (wr ((pm_up σ 82 (Int.toNat (wr (σ 81 6))) x1) 81 6))) x2) 81 6))) x3) 85 (Int.toNat (wr ((pm_up (pm_up (pm_up σ 82 (Int.toNat (wr (σ 81 6))) x1) 83 (Int.toNat (wr ((pm_up σ 82 (Int.toNat (wr (σ 81 6))) x1) 81 6))) x2) 84 (Int.toNat (wr ((pm_up (pm_up σ 82 (Int.toNat (wr (σ 81 6))) x1) 83 (Int.toNat (wr ((pm_up σ 82 (Int.toNat (wr (σ 81 6))) x1) 81 6))) x2) 81 6))) x3) 81 6))) x4) 81 6))) x5) 81 6))) (-9)) 81 6) + 1)) 81 6) - 1), (pm_up (pm_up (pm_up (pm_up (pm_up (pm_up (pm_up σ 82 (Int.toNat (wr (σ 81 6))) x1) 83 (Int.toNat (wr ((pm_up σ 82 (Int.toNat (wr (σ 81 6))) x1) 81 6))) x2) 84 (Int.toNat (wr ((pm_up (pm_up σ 82 (Int.toNat (wr (σ 81 6))) x1) 83 (Int.toNat (wr ((pm_up σ 82 (Int.toNat (wr (σ 81 6))) x1) 81 6))) x2) 81 6))) x3) 85 (Int.toNat (wr ((pm_up (pm_up (pm_up σ 82 (Int.toNat (wr (σ 81 6))) x1) 83 (Int.toNat (wr ((pm_up σ 82 (Int.toNat (wr (σ 81 6))) x1) 81 6))) x2) 84 (Int.toNat (wr ((pm_up (pm_up σ 82 (Int.toNat (wr (σ 81 6))) x1) 83 (Int.toNat (wr ((pm_up σ 82 (Int.toNat (wr (σ 81 6))) x1) 81 6))) x2) 81 6))) x3) 81 6))) x4) 86 (Int.toNat (wr ((pm_up (pm_up (pm_up (pm_up σ 82 (Int.toNat (wr (σ 81 6))) x1) 83 (Int.toNat (wr ((pm_up σ 82 (Int.toNat (wr (σ 81 6))) x1) 81 6))) x2) 84 (Int.toNat (wr ((pm_up (pm_up σ 82 (Int.toNat (wr (σ 81 6))) x1) 83 (Int.toNat (wr ((pm_up σ 82 (Int.toNat (wr (σ 81 6))) x1) 81 6))) x2) 81 6))) x3) 85 (Int.toNat (wr ((pm_up (pm_up (pm_up σ 82 (Int.toNat (wr (σ 81 6))) x1) 83 (Int.toNat (wr ((pm_up σ 82 (Int.toNat (wr (σ 81 6))) x1) 81 6))) x2) 84 (Int.toNat (wr ((pm_up (pm_up σ 82 (Int.toNat (wr (σ 81 6))) x1) 83 (Int.toNat (wr ((pm_up σ 82 (Int.toNat (wr (σ 81 6))) x1) 81 6))) x2) 81 6))) x3) 81 6))) x4) 81 6))) x5) 87 (Int.toNat (wr ((pm_up (pm_up (pm_up (pm_up (pm_up σ 82 (Int.toNat (wr (σ 81 6))) x1) 83 (Int.toNat (wr ((pm_up σ 82 (Int.toNat (wr (σ 81 6))) x1) 81 6))) x2) 84 (Int.toNat (wr ((pm_up (pm_up σ 82 (Int.toNat (wr (σ 81 6))) x1) 83 (Int.toNat (wr ((pm_up σ 82 (Int.toNat (wr (σ 81 6))) x1) 81 6))) x2) 81 6))) x3) 85 (Int.toNat (wr ((pm_up (pm_up (pm_up σ 82 (Int.toNat (wr (σ 81 6))) x1) 83 (Int.toNat (wr ((pm_up σ 82 (Int.toNat (wr (σ 81 6))) x1) 81 6))) x2) 84 (Int.toNat (wr ((pm_up (pm_up σ 82 (Int.toNat (wr (σ 81 6))) x1) 83 (Int.toNat (wr ((pm_up σ 82 (Int.toNat (wr (σ 81 6))) x1) 81 6))) x2) 81 6))) x3) 81 6))) x4) 86 (Int.toNat (wr ((pm_up (pm_up (pm_up (pm_up σ 82 (Int.toNat (wr (σ 81 6))) x1) 83 (Int.toNat (wr ((pm_up σ 82 (Int.toNat (wr (σ 81 6))) x1) 81 6))) x2) 84 (Int.toNat (wr ((pm_up (pm_up σ 82 (Int.toNat (wr (σ 81 6))) x1) 83 (Int.toNat (wr ((pm_up σ 82 (Int.toNat (wr (σ 81 6))) x1) 81 6))) x2) 81 6))) x3) 85 (Int.toNat (wr ((pm_up (pm_up (pm_up σ 82 (Int.toNat (wr (σ 81 6))) x1) 83 (Int.toNat (wr ((pm_up σ 82 (Int.toNat (wr (σ 81 6))) x1) 81 6))) x2) 84 (Int.toNat (wr ((pm_up (pm_up σ 82 (Int.toNat (wr (σ 81 6))) x1) 83 (Int.toNat (wr ((pm_up σ 82 (Int.toNat (wr (σ 81 6))) x1) 81 6))) x2) 81 6))) x3) 81 6))) x4) 81 6))) x5) 81 6))) (-9)) 81 6 (((pm_up (pm_up (pm_up (pm_up (pm_up (pm_up σ 82 (Int.toNat (wr (σ 81 6))) x1) 83 (Int.toNat (wr ((pm_up σ 82 (Int.toNat (wr (σ 81 6))) x1) 81 6))) x2) 84 (Int.toNat (wr ((pm_up (pm_up σ 82 (Int.toNat (wr (σ 81 6))) x1) 83 (Int.toNat (wr ((pm_up σ 82 (Int.toNat (wr (σ 81 6))) x1) 81 6))) x2) 81 6))) x3) 85 (Int.toNat (wr ((pm_up (pm_up (pm_up σ 82 (Int.toNat (wr (σ 81 6))) x1) 83 (Int.toNat (wr ((pm_up σ 82 (Int.toNat (wr (σ 81 6))) x1) 81 6))) x2) 84 (Int.toNat (wr ((pm_up (pm_up σ 82 (Int.toNat (wr (σ 81 6))) x1) 83 (Int.toNat (wr ((pm_up σ 82 (Int.toNat (wr (σ 81 6))) x1) 81 6))) x2) 81 6))) x3) 81 6))) x4) 86 (Int.toNat (wr ((pm_up (pm_up (pm_up (pm_up σ 82 (Int.toNat (wr (σ 81 6))) x1) 83 (Int.toNat (wr ((pm_up σ 82 (Int.toNat (wr (σ 81 6))) x1) 81 6))) x2) 84 (Int.toNat (wr ((pm_up (pm_up σ 82 (Int.toNat (wr (σ 81 6))) x1) 83 (Int.toNat (wr ((pm_up σ 82 (Int.toNat (wr (σ 81 6))) x1) 81 6))) x2) 81 6))) x3) 85 (Int.toNat (wr ((pm_up (pm_up (pm_up σ 82 (Int.toNat (wr (σ 81 6))) x1) 83 (Int.toNat (wr ((pm_up σ 82 (Int.toNat (wr (σ 81 6))) x1) 81 6))) x2) 84 (Int.toNat (wr ((pm_up (pm_up σ 82 (Int.toNat (wr (σ 81 6))) x1) 83 (Int.toNat (wr ((pm_up σ 82 (Int.toNat (wr (σ 81 6))) x1) 81 6))) x2) 81 6))) x3) 81 6))) x4) 81 6))) x5) 87 (Int.toNat (wr ((pm_up (pm_up (pm_up (pm_up (pm_up σ 82 (Int.toNat (wr (σ 81 6))) x1) 83 (Int.toNat (wr ((pm_up σ 82 (Int.toNat (wr (σ 81 6))) x1) 81 6))) x2) 84 (Int.toNat (wr ((pm_up (pm_up σ 82 (Int.toNat (wr (σ 81 6))) x1) 83 (Int.toNat (wr ((pm_up σ 82 (Int.toNat (wr (σ 81 6))) x1) 81 6))) x2) 81 6))) x3) 85 (Int.toNat (wr ((pm_up (pm_up (pm_up σ 82 (Int.toNat (wr (σ 81 6))) x1) 83 (Int.toNat (wr ((pm_up σ 82 (Int.toNat (wr (σ 81 6))) x1) 81 6))) x2) 84 (Int.toNat (wr ((pm_up (pm_up σ 82 (Int.toNat (wr (σ 81 6))) x1) 83 (Int.toNat (wr ((pm_up σ 82 (Int.toNat (wr (σ 81 6))) x1) 81 6))) x2) 81 6))) x3) 81 6))) x4) 86 (Int.toNat (wr ((pm_up (pm_up (pm_up (pm_up σ 82 (Int.toNat (wr (σ 81 6))) x1) 83 (Int.toNat (wr ((pm_up σ 82 (Int.toNat (wr (σ 81 6))) x1) 81 6))) x2) 84 (Int.toNat (wr ((pm_up (pm_up σ 82 (Int.toNat (wr (σ 81 6))) x1) 83 (Int.toNat (wr ((pm_up σ 82 (Int.toNat (wr (σ 81 6))) x1) 81 6))) x2) 81 6))) x3) 85 (Int.toNat (wr ((pm_up (pm_up (pm_up σ 82 (Int.toNat (wr (σ 81 6))) x1) 83 (Int.toNat (wr ((pm_up σ 82 (Int.toNat (wr (σ 81 6))) x1) 81 6))) x2) 84 (Int.toNat (wr ((pm_up (pm_up σ 82 (Int.toNat (wr (σ 81 6))) x1) 83 (Int.toNat (wr ((pm_up σ 82 (Int.toNat (wr (σ 81 6))) x1) 81 6))) x2) 81 6))) x3) 81 6))) x4) 81 6))) x5) 81 6))) (-9)) 81 6) + 1)))))))))
set_option maxHeartbeats 4000000 in
set_option maxRecDepth 100000 in
theorem tmX5_take {x1 : Int} {x2 : Int} {x3 : Int} {x4 : Int} {x5 : Int} {σ : pm_M} {ρ : Int × pm_M} (h : fX5_take x1 x2 x3 x4 x5 σ = some ρ) : pm_C mX5_take 0 0 [pv_r 81, pv_i x1, pv_i x2, pv_i x3, pv_i x4, pv_i x5] LAYC σ (some (pv_i ρ.1)) LAYC ρ.2 := by
  refine pm_C.of (by decide) rfl (Nat.le_of_ble_eq_true rfl) ?_
  show pm_J mX5_take 0 0 LAYC (some (pv_i ρ.1)) LAYC ρ.2 0 [some (pv_r 81), some (pv_i x1), some (pv_i x2), some (pv_i x3), some (pv_i x4), some (pv_i x5)] [] LAYC σ
  unfold fX5_take at h
  refine pr_aload_n dX5_take_0 rfl ?_
  refine pr_getR dX5_take_1 lk_X5_9 lc_81 rfl ?_
  refine pr_aload_n dX5_take_4 rfl ?_
  refine pr_getI dX5_take_5 lk_X5_33 lc_81 rfl ?_
  refine pr_iload_n dX5_take_8 rfl ?_
  obtain ⟨g_1, h⟩ := pm_gs h
  refine pr_iast dX5_take_9 lc_82 rfl g_1 ?_
  refine pr_aload_n dX5_take_10 rfl ?_
  refine pr_getR dX5_take_11 lk_X5_15 lc_81 rfl ?_
  refine pr_aload_n dX5_take_14 rfl ?_
  refine pr_getI dX5_take_15 lk_X5_33 lc_81 rfl ?_
  refine pr_iload_n dX5_take_18 rfl ?_
  obtain ⟨g_2, h⟩ := pm_gs h
  refine pr_iast dX5_take_19 lc_83 rfl g_2 ?_
  refine pr_aload_n dX5_take_20 rfl ?_
  refine pr_getR dX5_take_21 lk_X5_18 lc_81 rfl ?_
  refine pr_aload_n dX5_take_24 rfl ?_
  refine pr_getI dX5_take_25 lk_X5_33 lc_81 rfl ?_
  refine pr_iload_n dX5_take_28 rfl ?_
  obtain ⟨g_3, h⟩ := pm_gs h
  refine pr_iast dX5_take_29 lc_84 rfl g_3 ?_
  refine pr_aload_n dX5_take_30 rfl ?_
  refine pr_getR dX5_take_31 lk_X5_21 lc_81 rfl ?_
  refine pr_aload_n dX5_take_34 rfl ?_
  refine pr_getI dX5_take_35 lk_X5_33 lc_81 rfl ?_
  refine pr_iload dX5_take_38 rfl ?_
  obtain ⟨g_4, h⟩ := pm_gs h
  refine pr_iast dX5_take_40 lc_85 rfl g_4 ?_
  refine pr_aload_n dX5_take_41 rfl ?_
  refine pr_getR dX5_take_42 lk_X5_24 lc_81 rfl ?_
  refine pr_aload_n dX5_take_45 rfl ?_
  refine pr_getI dX5_take_46 lk_X5_33 lc_81 rfl ?_
  refine pr_iload dX5_take_49 rfl ?_
  obtain ⟨g_5, h⟩ := pm_gs h
  refine pr_iast dX5_take_51 lc_86 rfl g_5 ?_
  refine pr_aload_n dX5_take_52 rfl ?_
  refine pr_getR dX5_take_53 lk_X5_27 lc_81 rfl ?_
  refine pr_aload_n dX5_take_56 rfl ?_
  refine pr_getI dX5_take_57 lk_X5_33 lc_81 rfl ?_
  refine pr_bipush dX5_take_60 (by decide) ?_
  obtain ⟨g_6, h⟩ := pm_gs h
  refine pr_iast dX5_take_62 lc_87 rfl g_6 ?_
  refine pr_aload_n dX5_take_63 rfl ?_
  refine pr_dup dX5_take_64 rfl ?_
  refine pr_getI dX5_take_65 lk_X5_33 lc_81 rfl ?_
  refine pr_iconst dX5_take_68 ?_
  refine pr_iadd dX5_take_69 ?_
  refine pr_putI dX5_take_70 lp_X5_33 lc_81 rfl ?_
  refine pr_aload_n dX5_take_73 rfl ?_
  refine pr_getI dX5_take_74 lk_X5_33 lc_81 rfl ?_
  refine pr_iconst dX5_take_77 ?_
  refine pr_isub dX5_take_78 ?_
  have h := Option.some.inj h
  subst h
  exact pr_iret dX5_take_79 rfl
def fX5_isOpen (x1 : Int) (σ : pm_M) : Option (Int) :=
  pm_g (0 ≤ (wr x1) ∧ (wr x1) < 12) (if (wr (σ 87 (Int.toNat (wr x1)))) = (-9) then (some 1) else (some 0))
set_option maxHeartbeats 4000000 in
set_option maxRecDepth 100000 in
theorem tmX5_isOpen {x1 : Int} {σ : pm_M} {ρ : Int} (h : fX5_isOpen x1 σ = some ρ) : pm_C mX5_isOpen 0 0 [pv_r 81, pv_i x1] LAYC σ (some (pv_i ρ)) LAYC σ := by
  refine pm_C.of (by decide) rfl (Nat.le_of_ble_eq_true rfl) ?_
  show pm_J mX5_isOpen 0 0 LAYC (some (pv_i ρ)) LAYC σ 0 [some (pv_r 81), some (pv_i x1)] [] LAYC σ
  unfold fX5_isOpen at h
  refine pr_aload_n dX5_isOpen_0 rfl ?_
  refine pr_getR dX5_isOpen_1 lk_X5_27 lc_81 rfl ?_
  refine pr_iload_n dX5_isOpen_4 rfl ?_
  obtain ⟨g_1, h⟩ := pm_gs h
  refine pr_iald dX5_isOpen_5 lc_87 rfl g_1 ?_
  refine pr_bipush dX5_isOpen_6 (by decide) ?_
  refine pr_icmp_ne (tgt := 15) dX5_isOpen_8 rfl (wr_eq (by decide) (by decide)) (by decide) (fun c_2 => ?_) (fun c_2 => ?_)
  · have h := pm_ng c_2 h
    refine pr_iconst dX5_isOpen_15 ?_
    have h := Option.some.inj h
    subst h
    exact pr_zret dX5_isOpen_16 rfl (Or.inl rfl)
  · have h := pm_pos c_2 h
    refine pr_iconst dX5_isOpen_11 ?_
    refine pr_goto (tgt := 16) dX5_isOpen_12 (by decide) ?_
    have h := Option.some.inj h
    subst h
    exact pr_zret dX5_isOpen_16 rfl (Or.inr rfl)
def bdX5_open_4 (σ : pm_M) (z1 : Int) (z2 : Int) : Option ((Int × Int) ⊕ (Int × Int)) :=
  if (wr (σ 81 6)) ≤ (wr z2) then (some (.inl (z1, z2))) else ((fX5_isOpen z2 σ).bind fun q2 => if (wr q2) = 0 then (some (.inr (z1, (z2 + 1)))) else (some (.inr ((z1 + 1), (z2 + 1)))))
set_option maxHeartbeats 4000000 in
set_option maxRecDepth 100000 in
theorem tbX5_open_4 {lay0 lay' : List pm_S} {r : Option pm_V} {σ' : pm_M} (σ : pm_M) : ∀ (a : Int × Int) (e : (Int × Int) ⊕ (Int × Int)), (fun a => bdX5_open_4 σ a.1 a.2) a = some e → (∀ a, e = .inr a → (fun a => pm_J mX5_open 1 21 lay0 r lay' σ' 4 [some (pv_r 81), some (pv_i a.1), some (pv_i a.2)] [] LAYC σ) a) → (∀ a, e = .inl a → (fun a => pm_J mX5_open 1 21 lay0 r lay' σ' 29 [none, some (pv_i a.1), none] [] LAYC σ) a) → (fun a => pm_J mX5_open 1 21 lay0 r lay' σ' 4 [some (pv_r 81), some (pv_i a.1), some (pv_i a.2)] [] LAYC σ) a := by
  intro a e h hc hx
  obtain ⟨z1, z2⟩ := a
  have h : bdX5_open_4 σ z1 z2 = some e := h
  unfold bdX5_open_4 at h
  show pm_J mX5_open 1 21 lay0 r lay' σ' 4 [some (pv_r 81), some (pv_i z1), some (pv_i z2)] [] LAYC σ
  refine pr_iload_n dX5_open_4 rfl ?_
  refine pr_aload_n dX5_open_5 rfl ?_
  refine pr_getI dX5_open_6 lk_X5_33 lc_81 rfl ?_
  refine pr_icmp_ge (tgt := 29) dX5_open_9 rfl rfl (by decide) (fun c_1 => ?_) (fun c_1 => ?_)
  · have h := pm_pos c_1 h
    refine pr_weak (L2 := [none, some (pv_i z1), none]) ⟨Or.inl rfl, Or.inr rfl, Or.inl rfl, trivial⟩ ?_
    exact hx (z1, z2) (Option.some.inj h).symm
  · have h := pm_ng c_1 h
    refine pr_aload_n dX5_open_12 rfl ?_
    refine pr_iload_n dX5_open_13 rfl ?_
    obtain ⟨q2, e3, h⟩ := pm_bs h
    refine pr_callV (As := [pv_i z2]) (S := []) (t := 81) dX5_open_14 mk_X5_37 lc_81 (ci := 5) (q := (RX5, TX5, 10)) rfl rfl rfl rfl (Nat.le_of_ble_eq_true rfl) (by decide) (by decide) (Or.inl rfl) (tmX5_isOpen e3) ?_
    refine pr_if_eq (tgt := 23) dX5_open_17 rfl (by decide) (fun c_4 => ?_) (fun c_4 => ?_)
    · have h := pm_pos c_4 h
      refine pr_iinc dX5_open_23 rfl (by decide) rfl ?_
      refine pr_goto (tgt := 4) dX5_open_26 (by decide) ?_
      refine pr_weak (L2 := [some (pv_r 81), some (pv_i z1), some (pv_i (z2 + 1))]) ⟨Or.inr rfl, Or.inr rfl, Or.inr rfl, trivial⟩ ?_
      exact hc (z1, (z2 + 1)) (Option.some.inj h).symm
    · have h := pm_ng c_4 h
      refine pr_iinc dX5_open_20 rfl (by decide) rfl ?_
      refine pr_iinc dX5_open_23 rfl (by decide) rfl ?_
      refine pr_goto (tgt := 4) dX5_open_26 (by decide) ?_
      refine pr_weak (L2 := [some (pv_r 81), some (pv_i (z1 + 1)), some (pv_i (z2 + 1))]) ⟨Or.inr rfl, Or.inr rfl, Or.inr rfl, trivial⟩ ?_
      exact hc ((z1 + 1), (z2 + 1)) (Option.some.inj h).symm
def fX5_open (σ : pm_M) : Option (Int) :=
  (pm_it (fun a => bdX5_open_4 σ a.1 a.2) pm_fuel (0, 0)).bind fun v5 => some v5.1
set_option maxHeartbeats 4000000 in
set_option maxRecDepth 100000 in
theorem tmX5_open {σ : pm_M} {ρ : Int} (h : fX5_open σ = some ρ) : pm_C mX5_open 1 21 [pv_r 81] LAYC σ (some (pv_i ρ)) LAYC σ := by
  refine pm_C.of (by decide) rfl (Nat.le_of_ble_eq_true rfl) ?_
  show pm_J mX5_open 1 21 LAYC (some (pv_i ρ)) LAYC σ 0 [some (pv_r 81), none, none] [] LAYC σ
  unfold fX5_open at h
  refine pr_iconst dX5_open_0 ?_
  refine pr_istore_n dX5_open_1 (by decide) rfl ?_
  refine pr_iconst dX5_open_2 ?_
  refine pr_istore_n dX5_open_3 (by decide) rfl ?_
  obtain ⟨v5, e6, h⟩ := pm_bs h
  refine pr_weak (L2 := [some (pv_r 81), some (pv_i 0), some (pv_i 0)]) ⟨Or.inr rfl, Or.inr rfl, Or.inr rfl, trivial⟩ ?_
  refine pm_it_J (α := Int × Int) (β := Int × Int) (f := fun a => bdX5_open_4 σ a.1 a.2) (P := fun a => pm_J mX5_open 1 21 LAYC (some (pv_i ρ)) LAYC σ 4 [some (pv_r 81), some (pv_i a.1), some (pv_i a.2)] [] LAYC σ) (Rx := fun a => pm_J mX5_open 1 21 LAYC (some (pv_i ρ)) LAYC σ 29 [none, some (pv_i a.1), none] [] LAYC σ) (tbX5_open_4 σ) pm_fuel (0, 0) v5 e6 ?_
  show pm_J mX5_open 1 21 LAYC (some (pv_i ρ)) LAYC σ 29 [none, some (pv_i v5.1), none] [] LAYC σ
  refine pr_iload_n dX5_open_29 rfl ?_
  have h := Option.some.inj h
  subst h
  exact pr_iret dX5_open_30 rfl
def fX5_coinsFor (x1 : Int) (x2 : Int) (x3 : Int) (σ : pm_M) : Option (Int) :=
  pm_g (0 ≤ (wr x1) ∧ (wr x1) < 12) (if (wr x2) ≤ (wr (σ 85 (Int.toNat (wr x1)))) then (pm_g (0 ≤ (wr x1) ∧ (wr x1) < 12) (pm_g (0 ≤ (wr x1) ∧ (wr x1) < 12) (some ((σ 84 (Int.toNat (wr x1))) * ((σ 86 (Int.toNat (wr x1))) - x3))))) else (pm_g (0 ≤ (wr x1) ∧ (wr x1) < 12) (pm_g (0 ≤ (wr x1) ∧ (wr x1) < 12) (some ((σ 84 (Int.toNat (wr x1))) * ((Int.tdiv (wr (σ 86 (Int.toNat (wr x1)))) 2) - x3))))))
set_option maxHeartbeats 4000000 in
set_option maxRecDepth 100000 in
theorem tmX5_coinsFor {x1 : Int} {x2 : Int} {x3 : Int} {σ : pm_M} {ρ : Int} (h : fX5_coinsFor x1 x2 x3 σ = some ρ) : pm_C mX5_coinsFor 0 0 [pv_r 81, pv_i x1, pv_i x2, pv_i x3] LAYC σ (some (pv_i ρ)) LAYC σ := by
  refine pm_C.of (by decide) rfl (Nat.le_of_ble_eq_true rfl) ?_
  show pm_J mX5_coinsFor 0 0 LAYC (some (pv_i ρ)) LAYC σ 0 [some (pv_r 81), some (pv_i x1), some (pv_i x2), some (pv_i x3), none] [] LAYC σ
  unfold fX5_coinsFor at h
  refine pr_iload_n dX5_coinsFor_0 rfl ?_
  refine pr_aload_n dX5_coinsFor_1 rfl ?_
  refine pr_getR dX5_coinsFor_2 lk_X5_21 lc_81 rfl ?_
  refine pr_iload_n dX5_coinsFor_5 rfl ?_
  obtain ⟨g_1, h⟩ := pm_gs h
  refine pr_iald dX5_coinsFor_6 lc_85 rfl g_1 ?_
  refine pr_icmp_le (tgt := 21) dX5_coinsFor_7 rfl rfl (by decide) (fun c_2 => ?_) (fun c_2 => ?_)
  · have h := pm_pos c_2 h
    refine pr_aload_n dX5_coinsFor_21 rfl ?_
    refine pr_getR dX5_coinsFor_22 lk_X5_24 lc_81 rfl ?_
    refine pr_iload_n dX5_coinsFor_25 rfl ?_
    obtain ⟨g_3, h⟩ := pm_gs h
    refine pr_iald dX5_coinsFor_26 lc_86 rfl g_3 ?_
    refine pr_istore dX5_coinsFor_27 (by decide) rfl ?_
    refine pr_aload_n dX5_coinsFor_29 rfl ?_
    refine pr_getR dX5_coinsFor_30 lk_X5_18 lc_81 rfl ?_
    refine pr_iload_n dX5_coinsFor_33 rfl ?_
    obtain ⟨g_4, h⟩ := pm_gs h
    refine pr_iald dX5_coinsFor_34 lc_84 rfl g_4 ?_
    refine pr_iload dX5_coinsFor_35 rfl ?_
    refine pr_iload_n dX5_coinsFor_37 rfl ?_
    refine pr_isub dX5_coinsFor_38 ?_
    refine pr_imul dX5_coinsFor_39 ?_
    have h := Option.some.inj h
    subst h
    exact pr_iret dX5_coinsFor_40 rfl
  · have h := pm_ng c_2 h
    refine pr_aload_n dX5_coinsFor_10 rfl ?_
    refine pr_getR dX5_coinsFor_11 lk_X5_24 lc_81 rfl ?_
    refine pr_iload_n dX5_coinsFor_14 rfl ?_
    obtain ⟨g_5, h⟩ := pm_gs h
    refine pr_iald dX5_coinsFor_15 lc_86 rfl g_5 ?_
    refine pr_iconst dX5_coinsFor_16 ?_
    refine pr_idiv dX5_coinsFor_17 rfl (wr_eq (by decide) (by decide)) (by decide) ?_
    refine pr_goto (tgt := 27) dX5_coinsFor_18 (by decide) ?_
    refine pr_istore dX5_coinsFor_27 (by decide) rfl ?_
    refine pr_aload_n dX5_coinsFor_29 rfl ?_
    refine pr_getR dX5_coinsFor_30 lk_X5_18 lc_81 rfl ?_
    refine pr_iload_n dX5_coinsFor_33 rfl ?_
    obtain ⟨g_6, h⟩ := pm_gs h
    refine pr_iald dX5_coinsFor_34 lc_84 rfl g_6 ?_
    refine pr_iload dX5_coinsFor_35 rfl ?_
    refine pr_iload_n dX5_coinsFor_37 rfl ?_
    refine pr_isub dX5_coinsFor_38 ?_
    refine pr_imul dX5_coinsFor_39 ?_
    have h := Option.some.inj h
    subst h
    exact pr_iret dX5_coinsFor_40 rfl
def bdX5_sortByDue_25 (y1 : Int) (y2 : Int) (z3 : Int) (σ : pm_M) : Option ((Int × pm_M) ⊕ (Int × pm_M)) :=
  if (wr z3) ≤ 0 then (some (.inl (z3, σ))) else (pm_g (0 ≤ (wr (z3 - 1)) ∧ (wr (z3 - 1)) < 12) (pm_g (0 ≤ (wr (σ 88 (Int.toNat (wr (z3 - 1))))) ∧ (wr (σ 88 (Int.toNat (wr (z3 - 1))))) < 12) (pm_g (0 ≤ (wr y2) ∧ (wr y2) < 12) (if (wr (σ 85 (Int.toNat (wr (σ 88 (Int.toNat (wr (z3 - 1)))))))) ≤ (wr (σ 85 (Int.toNat (wr y2)))) then (some (.inl (z3, σ))) else (pm_g (0 ≤ (wr (z3 - 1)) ∧ (wr (z3 - 1)) < 12) (pm_g (0 ≤ (wr z3) ∧ (wr z3) < 12) (some (.inr ((z3 + (-1)), (pm_up σ 88 (Int.toNat (wr z3)) (σ 88 (Int.toNat (wr (z3 - 1))))))))))))))
set_option maxHeartbeats 4000000 in
set_option maxRecDepth 100000 in
theorem tbX5_sortByDue_25 {lay0 lay' : List pm_S} {r : Option pm_V} {σ' : pm_M} (y1 : Int) (y2 : Int) : ∀ (a : Int × pm_M) (e : (Int × pm_M) ⊕ (Int × pm_M)), (fun a => bdX5_sortByDue_25 y1 y2 a.1 a.2) a = some e → (∀ a, e = .inr a → (fun a => pm_J mX5_sortByDue 1 21 lay0 r lay' σ' 25 [some (pv_r 81), some (pv_i y1), some (pv_i y2), some (pv_i a.1)] [] LAYC a.2) a) → (∀ a, e = .inl a → (fun a => pm_J mX5_sortByDue 1 21 lay0 r lay' σ' 71 [some (pv_r 81), some (pv_i y1), some (pv_i y2), some (pv_i a.1)] [] LAYC a.2) a) → (fun a => pm_J mX5_sortByDue 1 21 lay0 r lay' σ' 25 [some (pv_r 81), some (pv_i y1), some (pv_i y2), some (pv_i a.1)] [] LAYC a.2) a := by
  intro a e h hc hx
  obtain ⟨z3, σ⟩ := a
  have h : bdX5_sortByDue_25 y1 y2 z3 σ = some e := h
  unfold bdX5_sortByDue_25 at h
  show pm_J mX5_sortByDue 1 21 lay0 r lay' σ' 25 [some (pv_r 81), some (pv_i y1), some (pv_i y2), some (pv_i z3)] [] LAYC σ
  refine pr_iload_n dX5_sortByDue_25 rfl ?_
  refine pr_if_le (tgt := 71) dX5_sortByDue_26 rfl (by decide) (fun c_5 => ?_) (fun c_5 => ?_)
  · have h := pm_pos c_5 h
    refine pr_weak (L2 := [some (pv_r 81), some (pv_i y1), some (pv_i y2), some (pv_i z3)]) ⟨Or.inr rfl, Or.inr rfl, Or.inr rfl, Or.inr rfl, trivial⟩ ?_
    exact hx (z3, σ) (Option.some.inj h).symm
  · have h := pm_ng c_5 h
    refine pr_aload_n dX5_sortByDue_29 rfl ?_
    refine pr_getR dX5_sortByDue_30 lk_X5_21 lc_81 rfl ?_
    refine pr_aload_n dX5_sortByDue_33 rfl ?_
    refine pr_getR dX5_sortByDue_34 lk_X5_30 lc_81 rfl ?_
    refine pr_iload_n dX5_sortByDue_37 rfl ?_
    refine pr_iconst dX5_sortByDue_38 ?_
    refine pr_isub dX5_sortByDue_39 ?_
    obtain ⟨g_6, h⟩ := pm_gs h
    refine pr_iald dX5_sortByDue_40 lc_88 rfl g_6 ?_
    obtain ⟨g_7, h⟩ := pm_gs h
    refine pr_iald dX5_sortByDue_41 lc_85 rfl g_7 ?_
    refine pr_aload_n dX5_sortByDue_42 rfl ?_
    refine pr_getR dX5_sortByDue_43 lk_X5_21 lc_81 rfl ?_
    refine pr_iload_n dX5_sortByDue_46 rfl ?_
    obtain ⟨g_8, h⟩ := pm_gs h
    refine pr_iald dX5_sortByDue_47 lc_85 rfl g_8 ?_
    refine pr_icmp_le (tgt := 71) dX5_sortByDue_48 rfl rfl (by decide) (fun c_9 => ?_) (fun c_9 => ?_)
    · have h := pm_pos c_9 h
      refine pr_weak (L2 := [some (pv_r 81), some (pv_i y1), some (pv_i y2), some (pv_i z3)]) ⟨Or.inr rfl, Or.inr rfl, Or.inr rfl, Or.inr rfl, trivial⟩ ?_
      exact hx (z3, σ) (Option.some.inj h).symm
    · have h := pm_ng c_9 h
      refine pr_aload_n dX5_sortByDue_51 rfl ?_
      refine pr_getR dX5_sortByDue_52 lk_X5_30 lc_81 rfl ?_
      refine pr_iload_n dX5_sortByDue_55 rfl ?_
      refine pr_aload_n dX5_sortByDue_56 rfl ?_
      refine pr_getR dX5_sortByDue_57 lk_X5_30 lc_81 rfl ?_
      refine pr_iload_n dX5_sortByDue_60 rfl ?_
      refine pr_iconst dX5_sortByDue_61 ?_
      refine pr_isub dX5_sortByDue_62 ?_
      obtain ⟨g_10, h⟩ := pm_gs h
      refine pr_iald dX5_sortByDue_63 lc_88 rfl g_10 ?_
      obtain ⟨g_11, h⟩ := pm_gs h
      refine pr_iast dX5_sortByDue_64 lc_88 rfl g_11 ?_
      refine pr_iinc dX5_sortByDue_65 rfl (by decide) rfl ?_
      refine pr_goto (tgt := 25) dX5_sortByDue_68 (by decide) ?_
      refine pr_weak (L2 := [some (pv_r 81), some (pv_i y1), some (pv_i y2), some (pv_i (z3 + (-1)))]) ⟨Or.inr rfl, Or.inr rfl, Or.inr rfl, Or.inr rfl, trivial⟩ ?_
      exact hc ((z3 + (-1)), (pm_up σ 88 (Int.toNat (wr z3)) (σ 88 (Int.toNat (wr (z3 - 1)))))) (Option.some.inj h).symm
def bdX5_sortByDue_4 (z1 : Int) (z2 : Int) (σ : pm_M) : Option ((Int × Int × pm_M) ⊕ (Int × Int × pm_M)) :=
  if (wr (σ 81 6)) ≤ (wr z2) then (some (.inl (z1, z2, σ))) else ((fX5_isOpen z2 σ).bind fun q2 => if (wr q2) = 0 then (some (.inr (z1, (z2 + 1), σ))) else ((pm_it (fun a => bdX5_sortByDue_25 z1 z2 a.1 a.2) pm_fuel (z1, σ)).bind fun v12 => pm_g (0 ≤ (wr v12.1) ∧ (wr v12.1) < 12) (some (.inr ((z1 + 1), (z2 + 1), (pm_up v12.2 88 (Int.toNat (wr v12.1)) z2))))))
set_option maxHeartbeats 4000000 in
set_option maxRecDepth 100000 in
theorem tbX5_sortByDue_4 {lay0 lay' : List pm_S} {r : Option pm_V} {σ' : pm_M} : ∀ (a : Int × Int × pm_M) (e : (Int × Int × pm_M) ⊕ (Int × Int × pm_M)), (fun a => bdX5_sortByDue_4 a.1 a.2.1 a.2.2) a = some e → (∀ a, e = .inr a → (fun a => pm_J mX5_sortByDue 1 21 lay0 r lay' σ' 4 [some (pv_r 81), some (pv_i a.1), some (pv_i a.2.1), none] [] LAYC a.2.2) a) → (∀ a, e = .inl a → (fun a => pm_J mX5_sortByDue 1 21 lay0 r lay' σ' 87 [none, some (pv_i a.1), none, none] [] LAYC a.2.2) a) → (fun a => pm_J mX5_sortByDue 1 21 lay0 r lay' σ' 4 [some (pv_r 81), some (pv_i a.1), some (pv_i a.2.1), none] [] LAYC a.2.2) a := by
  intro a e h hc hx
  obtain ⟨z1, z2, σ⟩ := a
  have h : bdX5_sortByDue_4 z1 z2 σ = some e := h
  unfold bdX5_sortByDue_4 at h
  show pm_J mX5_sortByDue 1 21 lay0 r lay' σ' 4 [some (pv_r 81), some (pv_i z1), some (pv_i z2), none] [] LAYC σ
  refine pr_iload_n dX5_sortByDue_4 rfl ?_
  refine pr_aload_n dX5_sortByDue_5 rfl ?_
  refine pr_getI dX5_sortByDue_6 lk_X5_33 lc_81 rfl ?_
  refine pr_icmp_ge (tgt := 87) dX5_sortByDue_9 rfl rfl (by decide) (fun c_1 => ?_) (fun c_1 => ?_)
  · have h := pm_pos c_1 h
    refine pr_weak (L2 := [none, some (pv_i z1), none, none]) ⟨Or.inl rfl, Or.inr rfl, Or.inl rfl, Or.inl rfl, trivial⟩ ?_
    exact hx (z1, z2, σ) (Option.some.inj h).symm
  · have h := pm_ng c_1 h
    refine pr_aload_n dX5_sortByDue_12 rfl ?_
    refine pr_iload_n dX5_sortByDue_13 rfl ?_
    obtain ⟨q2, e3, h⟩ := pm_bs h
    refine pr_callV (As := [pv_i z2]) (S := []) (t := 81) dX5_sortByDue_14 mk_X5_37 lc_81 (ci := 5) (q := (RX5, TX5, 10)) rfl rfl rfl rfl (Nat.le_of_ble_eq_true rfl) (by decide) (by decide) (Or.inl rfl) (tmX5_isOpen e3) ?_
    refine pr_if_ne (tgt := 23) dX5_sortByDue_17 rfl (by decide) (fun c_4 => ?_) (fun c_4 => ?_)
    · have h := pm_ng c_4 h
      refine pr_iload_n dX5_sortByDue_23 rfl ?_
      refine pr_istore_n dX5_sortByDue_24 (by decide) rfl ?_
      obtain ⟨v12, e13, h⟩ := pm_bs h
      refine pr_weak (L2 := [some (pv_r 81), some (pv_i z1), some (pv_i z2), some (pv_i z1)]) ⟨Or.inr rfl, Or.inr rfl, Or.inr rfl, Or.inr rfl, trivial⟩ ?_
      refine pm_it_J (α := Int × pm_M) (β := Int × pm_M) (f := fun a => bdX5_sortByDue_25 z1 z2 a.1 a.2) (P := fun a => pm_J mX5_sortByDue 1 21 lay0 r lay' σ' 25 [some (pv_r 81), some (pv_i z1), some (pv_i z2), some (pv_i a.1)] [] LAYC a.2) (Rx := fun a => pm_J mX5_sortByDue 1 21 lay0 r lay' σ' 71 [some (pv_r 81), some (pv_i z1), some (pv_i z2), some (pv_i a.1)] [] LAYC a.2) (tbX5_sortByDue_25 z1 z2) pm_fuel (z1, σ) v12 e13 ?_
      show pm_J mX5_sortByDue 1 21 lay0 r lay' σ' 71 [some (pv_r 81), some (pv_i z1), some (pv_i z2), some (pv_i v12.1)] [] LAYC v12.2
      refine pr_aload_n dX5_sortByDue_71 rfl ?_
      refine pr_getR dX5_sortByDue_72 lk_X5_30 lc_81 rfl ?_
      refine pr_iload_n dX5_sortByDue_75 rfl ?_
      refine pr_iload_n dX5_sortByDue_76 rfl ?_
      obtain ⟨g_14, h⟩ := pm_gs h
      refine pr_iast dX5_sortByDue_77 lc_88 rfl g_14 ?_
      refine pr_iinc dX5_sortByDue_78 rfl (by decide) rfl ?_
      refine pr_iinc dX5_sortByDue_81 rfl (by decide) rfl ?_
      refine pr_goto (tgt := 4) dX5_sortByDue_84 (by decide) ?_
      refine pr_weak (L2 := [some (pv_r 81), some (pv_i (z1 + 1)), some (pv_i (z2 + 1)), none]) ⟨Or.inr rfl, Or.inr rfl, Or.inr rfl, Or.inl rfl, trivial⟩ ?_
      exact hc ((z1 + 1), (z2 + 1), (pm_up v12.2 88 (Int.toNat (wr v12.1)) z2)) (Option.some.inj h).symm
    · have h := pm_pos c_4 h
      refine pr_goto (tgt := 81) dX5_sortByDue_20 (by decide) ?_
      refine pr_iinc dX5_sortByDue_81 rfl (by decide) rfl ?_
      refine pr_goto (tgt := 4) dX5_sortByDue_84 (by decide) ?_
      refine pr_weak (L2 := [some (pv_r 81), some (pv_i z1), some (pv_i (z2 + 1)), none]) ⟨Or.inr rfl, Or.inr rfl, Or.inr rfl, Or.inl rfl, trivial⟩ ?_
      exact hc (z1, (z2 + 1), σ) (Option.some.inj h).symm
def fX5_sortByDue (σ : pm_M) : Option (Int × pm_M) :=
  (pm_it (fun a => bdX5_sortByDue_4 a.1 a.2.1 a.2.2) pm_fuel (0, 0, σ)).bind fun v15 => some (v15.1, v15.2.2)
set_option maxHeartbeats 4000000 in
set_option maxRecDepth 100000 in
theorem tmX5_sortByDue {σ : pm_M} {ρ : Int × pm_M} (h : fX5_sortByDue σ = some ρ) : pm_C mX5_sortByDue 1 21 [pv_r 81] LAYC σ (some (pv_i ρ.1)) LAYC ρ.2 := by
  refine pm_C.of (by decide) rfl (Nat.le_of_ble_eq_true rfl) ?_
  show pm_J mX5_sortByDue 1 21 LAYC (some (pv_i ρ.1)) LAYC ρ.2 0 [some (pv_r 81), none, none, none] [] LAYC σ
  unfold fX5_sortByDue at h
  refine pr_iconst dX5_sortByDue_0 ?_
  refine pr_istore_n dX5_sortByDue_1 (by decide) rfl ?_
  refine pr_iconst dX5_sortByDue_2 ?_
  refine pr_istore_n dX5_sortByDue_3 (by decide) rfl ?_
  obtain ⟨v15, e16, h⟩ := pm_bs h
  refine pr_weak (L2 := [some (pv_r 81), some (pv_i 0), some (pv_i 0), none]) ⟨Or.inr rfl, Or.inr rfl, Or.inr rfl, Or.inl rfl, trivial⟩ ?_
  refine pm_it_J (α := Int × Int × pm_M) (β := Int × Int × pm_M) (f := fun a => bdX5_sortByDue_4 a.1 a.2.1 a.2.2) (P := fun a => pm_J mX5_sortByDue 1 21 LAYC (some (pv_i ρ.1)) LAYC ρ.2 4 [some (pv_r 81), some (pv_i a.1), some (pv_i a.2.1), none] [] LAYC a.2.2) (Rx := fun a => pm_J mX5_sortByDue 1 21 LAYC (some (pv_i ρ.1)) LAYC ρ.2 87 [none, some (pv_i a.1), none, none] [] LAYC a.2.2) (tbX5_sortByDue_4) pm_fuel (0, 0, σ) v15 e16 ?_
  show pm_J mX5_sortByDue 1 21 LAYC (some (pv_i ρ.1)) LAYC ρ.2 87 [none, some (pv_i v15.1), none, none] [] LAYC v15.2.2
  refine pr_iload_n dX5_sortByDue_87 rfl ?_
  have h := Option.some.inj h
  subst h
  exact pr_iret dX5_sortByDue_88 rfl
