def fX5_take (x1 : Int) (x2 : Int) (x3 : Int) (x4 : Int) (x5 : Int) (σ : pm_M) : Option (Int × pm_M) :=
  pm_g (0 ≤ (wr (σ 81 6)) ∧ (wr (σ 81 6)) < 12) (pm_g (0 ≤ (wr ((pm_up σ 82 (Int.toNat (wr (σ 81 6))) x1) 81 6)) ∧ (wr ((pm_up σ 82 (Int.toNat (wr (σ 81 6))) x1) 81 6)) < 12) (pm_g (0 ≤ (wr ((pm_up (pm_up σ 82 (Int.toNat (wr (σ 81 6))) x1) 83 (Int.toNat (wr ((pm_up σ 82 (Int.toNat (wr (σ 81 6))) x1) 81 6))) x2) 81 6)) ∧ (wr ((pm_up (pm_up σ 82 (Int.toNat (wr (σ 81 6))) x1) 83 (Int.toNat (wr ((pm_up σ 82 (Int.toNat (wr (σ 81 6))) x1) 81 6))) x2) 81 6)) < 12) (pm_g (0 ≤ (wr ((pm_up (pm_up (pm_up σ 82 (Int.toNat (wr (σ 81 6))) x1) 83 (Int.toNat (wr ((pm_up σ 82 (Int.toNat (wr (σ 81 6))) x1) 81 6))) x2) 84 (Int.toNat (wr ((pm_up (pm_up σ 82 (Int.toNat (wr (σ 81 6))) x1) 83 (Int.toNat (wr ((pm_up σ 82 (Int.toNat (wr (σ 81 6))) x1) 81 6))) x2) 81 6))) x3) 81 6)) ∧ (wr ((pm_up (pm_up (pm_up σ 82 (Int.toNat (wr (σ 81 6))) x1) 83 (Int.toNat (wr ((pm_up σ 82 (Int.toNat (wr (σ 81 6))) x1) 81 6))) x2) 84 (Int.toNat (wr ((pm_up (pm_up σ 82 (Int.toNat (wr (σ 81 6))) x1) 83 (Int.toNat (wr ((pm_up σ 82 (Int.toNat (wr (σ 81 6))) x1) 81 6))) x2) 81 6))) x3) 81 6)) < 12) (pm_g (0 ≤ (wr ((pm_up (pm_up (pm_up (pm_up σ 82 (Int.toNat (wr (σ 81 6))) x1) 83 (Int.toNat (wr ((pm_up σ 82 (Int.toNat (wr (σ 81 6))) x1) 81 6))) x2) 84 (Int.toNat (wr ((pm_up (pm_up σ 82 (Int.toNat (wr (σ 81 6))) x1) 83 (Int.toNat (wr ((pm_up σ 82 (Int.toNat (wr (σ 81 6))) x1) 81 6))) x2) 81 6))) x3) 85 (Int.toNat (wr ((pm_up (pm_up (pm_up σ 82 (Int.toNat (wr (σ 81 6))) x1) 83 (Int.toNat (wr ((pm_up σ 82 (Int.toNat (wr (σ 81 6))) x1) 81 6))) x2) 84 (Int.toNat (wr ((pm_up (pm_up σ 82 (Int.toNat (wr (σ 81 6))) x1) 83 (Int.toNat (wr ((pm_up σ 82 (Int.toNat (wr (σ 81 6))) x1) 81 6))) x2) 81 6))) x3) 81 6))) x4) 81 6)) ∧ (wr ((pm_up (pm_up (pm_up (pm_up σ 82 (Int.toNat (wr (σ 81 6))) x1) 83 (Int.toNat (wr ((pm_up σ 82 (Int.toNat (wr (σ 81 6))) x1) 81 6))) x2) 84 (Int.toNat (wr ((pm_up (pm_up σ 82 (Int.toNat (wr (σ 81 6))) x1) 83 (Int.toNat (wr ((pm_up σ 82 (Int.toNat (wr (σ 81 6))) x1) 81 6))) x2) 81 6))) x3) 85 (Int.toNat (wr ((pm_up (pm_up (pm_up σ 82 (Int.toNat (wr (σ 81 6))) x1) 83 (Int.toNat (wr ((pm_up σ 82 (Int.toNat (wr (σ 81 6))) x1) 81 6))) x2) 84 (Int.toNat (wr ((pm_up (pm_up σ 82 (Int.toNat (wr (σ 81 6))) x1) 83 (Int.toNat (wr ((pm_up σ 82 (Int.toNat (wr (σ 81 6))) x1) 81 6))) x2) 81 6))) x3) 81 6))) x4) 81 6)) < 12) (pm_g (0 ≤ (wr ((pm_up (pm_up (pm_up (pm_up (pm_up σ 82 (Int.toNat (wr (σ 81 6))) x1) 83 (Int.toNat (wr ((pm_up σ 82 (Int.toNat (wr (σ 81 6))) x1) 81 6))) x2) 84 (Int.toNat (wr ((pm_up (pm_up σ 82 (Int.toNat (wr (σ 81 6))) x1) 83 (Int.toNat (wr ((pm_up σ 82 (Int.toNat (wr (σ 81 6))) x1) 81 6))) x2) 81 6))) x3) 85 (Int.toNat (wr ((pm_up (pm_up (pm_up σ 82 (Int.toNat (wr (σ 81 6))) x1) 83 (Int.toNat (wr ((pm_up σ 82 (Int.toNat (wr (σ 81 6))) x1) 81 6))) x2) 84 (Int.toNat (wr ((pm_up (pm_up σ 82 (Int.toNat (wr (σ 81 6))) x1) 83 (Int.toNat (wr ((pm_up σ 82 (Int.toNat (wr (σ 81 6))) x1) 81 6))) x2) 81 6))) x3) 81 6))) x4) 86 (Int.toNat (wr ((pm_up (pm_up (pm_up (pm_up σ 82 (Int.toNat (wr (σ 81 6))) x1) 83 (Int.toNat (wr ((pm_up σ 82 (Int.toNat (wr (σ 81 6))) x1) 81 6))) x2) 84 (Int.toNat (wr ((pm_up (pm_up σ 82 (Int.toNat (wr (σ 81 6))) x1) 83 (Int.toNat (wr ((pm_up σ 82 (Int.toNat (wr (σ 81 6))) x1) 81 6))) x2) 81 6))) x3) 85 (Int.toNat (wr ((pm_up (pm_up (pm_up σ 82 (Int.toNat (wr (σ 81 6))) x1) 83 (Int.toNat (wr ((pm_up σ 82 (Int.toNat (wr (σ 81 6))) x1) 81 6))) x2) 84 (Int.toNat (wr ((pm_up (pm_up σ 82 (Int.toNat (wr (σ 81 6))) x1) 83 (Int.toNat (wr ((pm_up σ 82 (Int.toNat (wr (σ 81 6))) x1) 81 6))) x2) 81 6))) x3) 81 6))) x4) 81 6))) x5) 81 6)) ∧ (wr ((pm_up (pm_up (pm_up (pm_up (pm_up σ 82 (Int.toNat (wr (σ 81 6))) x1) 83 (Int.toNat (wr ((pm_up σ 82 (Int.toNat (wr (σ 81 6))) x1) 81 6))) x2) 84 (Int.toNat (wr ((pm_up (pm_up σ 82 (Int.toNat (wr (σ 81 6))) x1) 83 (Int.toNat (wr ((pm_up σ 82 (Int.toNat (wr (σ 81 6))) x1) 81 6))) x2) 81 6))) x3) 85 (Int.toNat (wr ((pm_up (pm_up (pm_up σ 82 (Int.toNat (wr (σ 81 6))) x1) 83 (Int.toNat (wr ((pm_up σ 82 (Int.toNat (wr (σ 81 6))) x1) 81 6))) x2) 84 (Int.toNat (wr ((pm_up (pm_up σ 82 (Int.toNat (wr (σ 81 6))) x1) 83 (Int.toNat (wr ((pm_up σ 82 (Int.toNat (wr (σ 81 6))) x1) 81 6))) x2) 81 6))) x3) 81 6))) x4) 86 (Int.toNat (wr ((pm_up (pm_up (pm_up (pm_up σ 82 (Int.toNat (wr (σ 81 6))) x1) 83 (Int.toNat (wr ((pm_up σ 82 (Int.toNat (wr (σ 81 6))) x1) 81 6))) x2) 84 (Int.toNat (wr ((pm_up (pm_up σ 82 (Int.toNat (wr (σ 81 6))) x1) 83 (Int.toNat (wr ((pm_up σ 82 (Int.toNat (wr (σ 81 6))) x1) 81 6))) x2) 81 6))) x3) 85 (Int.toNat (wr ((pm_up (pm_up (pm_up σ 82 (Int.toNat (wr (σ 81 6))) x1) 83 (Int.toNat (wr ((pm_up σ 82 (Int.toNat (wr (σ 81 6))) x1) 81 6))) x2) 84 (Int.toNat (wr ((pm_up (pm_up σ 82 (Int.toNat (wr (σ 81 6))) x1) 83 (Int.toNat (wr ((pm_up σ 82 (Int.toNat (wr (σ 81 6))) x1) 81 6))) x2) 81 6))) x3) 81 6))) x4) 81 6))) x5) 81 6)) < 12) (some ((((pm_up (pm_up (pm_up (pm_up (pm_up (pm_up (pm_up σ 82 (Int.toNat (wr (σ 81 6))) x1) 83 (Int.toNat (wr ((pm_up σ 82 (Int.toNat (wr (σ 81 6))) x1) 81 6))) x2) 84 (Int.toNat (wr ((pm_up (pm_up σ 82 (Int.toNat (wr (σ 81 6))) x1) 83 (Int.toNat (wr ((pm_up σ 82 (Int.toNat (wr (σ 81 6))) x1) 81 6))) x2) 81 6))) x3) 85 (Int.toNat (wr ((pm_up (pm_up (pm_up σ 82 (Int.toNat (wr (σ 81 6))) x1) 83 (Int.toNat (wr ((pm_up σ 82 (Int.toNat (wr (σ 81 6))) x1) 81 6))) x2) 84 (Int.toNat (wr ((pm_up (pm_up σ 82 (Int.toNat (wr (σ 81 6))) x1) 83 (Int.toNat (wr ((pm_up σ 82 (Int.toNat (wr (σ 81 6))) x1) 81 6))) x2) 81 6))) x3) 81 6))) x4) 86 (Int.toNat (wr ((pm_up (pm_up (pm_up (pm_up σ 82 (Int.toNat (wr (σ 81 6))) x1) 83 (Int.toNat (wr ((pm_up σ 82 (Int.toNat (wr (σ 81 6))) x1) 81 6))) x2) 84 (Int.toNat (wr ((pm_up (pm_up σ 82 (Int.toNat (wr (σ 81 6))) x1) 83 (Int.toNat (wr ((pm_up σ 82 (Int.toNat (wr (σ 81 6))) x1) 81 6))) x2) 81 6))) x3) 85 (Int.toNat (wr ((pm_up (pm_up (pm_up σ 82 (Int.toNat (wr (σ 81 6))) x1) 83 (Int.toNat (wr ((pm_up σ 82 (Int.toNat (wr (σ 81 6))) x1) 81 6))) x2) 84 (Int.toNat (wr ((pm_up (pm_up σ 82 (Int.toNat (wr (σ 81 6))) x1) 83 (Int.toNat (wr ((pm_up σ 82 (Int.toNat (wr (σ 81 6))) x1) 81 6))) x2) 81 6))) x3) 81 6))) x4) 81 6))) x5) 87 (Int.toNat (wr ((pm_up (pm_up (pm_up (pm_up (pm_up σ 82 (Int.toNat (wr (σ 81 6))) x1) 83 (Int.toNat (wr ((pm_up σ 82 (Int.toNat (wr (σ 81 6))) x1) 81 6))) x2) 84 (Int.toNat (wr ((pm_up (pm_up σ 82 (Int.toNat (wr (σ 81 6))) x1) 83 (Int.toNat (wr ((pm_up σ 82 (Int.toNat (wr (σ 81 6))) x1) 81 6))) x2) 81 6))) x3) 85 (Int.toNat (wr ((pm_up (pm_up (pm_up σ 82 (Int.toNat (wr (σ 81 6))) x1) 83 (Int.toNat (wr ((pm_up σ 82 (Int.toNat (wr (σ 81 6))) x1) 81 6))) x2) 84 (Int.toNat (wr ((pm_up (pm_up σ 82 (Int.toNat (wr (σ 81 6))) x1) 83 (Int.toNat (wr ((pm_up σ 82 (Int.toNat (wr (σ 81 6))) x1) 81 6))) x2) 81 6))) x3) 81 6))) x4) 86 (Int.toNat (wr ((pm_up (pm_up (pm_up (pm_up σ 82 (Int.toNat (wr (σ 81 6))) x1) 83 (Int.toNat (wr ((pm_up σ 82 (Int.toNat (wr (σ 81 6))) x1) 81 6))) x2) 84 (Int.toNat (wr ((pm_up (pm_up σ 82 (Int.toNat (wr (σ 81 6))) x1) 83 (Int.toNat (wr ((pm_up σ 82 (Int.toNat (wr (σ 81 6))) x1) 81 6))) x2) 81 6))) x3) 85 (Int.toNat (wr ((pm_up (pm_up (pm_up σ 82 (Int.toNat (wr (σ 81 6))) x1) 83 (Int.toNat (wr ((pm_up σ 82 (Int.toNat (wr (σ 81 6))) x1) 81 6))) x2) 84 (Int.toNat (wr ((pm_up (pm_up σ 82 (Int.toNat (wr (σ 81 6))) x1) 83 (Int.toNat (wr ((pm_up σ 82 (Int.toNat (wr (σ 81 6))) x1) 81 6))) x2) 81 6))) x3) 81 6))) x4) 81 6))) x5) 81 6))) (-9)) 81 6 (((pm_up (pm_up (pm_up (pm_up (pm_up (pm_up σ 82 (Int.toNat (wr (σ 81 6))) x1) 83 (Int.toNat (wr ((pm_up σ 82 (Int.toNat (wr (σ 81 6))) x1) 81 6))) x2) 84 (Int.toNat (wr ((pm_up (pm_up σ 82 (Int.toNat (wr (σ 81 6))) x1) 83 (Int.toNat (wr ((pm_up σ 82 (Int.toNat (wr (σ 81 6))) x1) 81 6))) x2) 81 6))) x3) 85 (Int.toNat (wr ((pm_up (pm_up (pm_up σ 82 (Int.toNat (wr (σ 81 6))) x1) 83 (Int.toNat (wr ((pm_up σ 82 (Int.toNat (wr (σ 81 6))) x1) 81 6))) x2) 84 (Int.toNat (wr ((pm_up (pm_up σ 82 (Int.toNat (wr (σ 81 6))) x1) 83 (Int.toNat (wr ((pm_up σ 82 (Int.toNat (wr (σ 81 6))) x1) 81 6))) x2) 81 6))) x3) 81 6))) x4) 86 (Int.toNat (wr ((pm_up (pm_up (pm_up (pm_up σ 82 (Int.toNat (wr (σ 81 6))) x1) 83 (Int.toNat (wr ((pm_up σ 82 (Int.toNat (wr (σ 81 6))) x1) 81 6))) x2) 84 (Int.toNat (wr ((pm_up (pm_up σ 82 (Int.toNat (wr (σ 81 6))) x1) 83 (Int.toNat (wr ((pm_up σ 82 (Int.toNat (wr (σ 81 6))) x1) 81 6))) x2) 81 6))) x3) 85 (Int.toNat (wr ((pm_up (pm_up (pm_up σ 82 (Int.toNat (wr (σ 81 6))) x1) 83 (Int.toNat (wr ((pm_up σ 82 (Int.toNat (wr (σ 81 6))) x1) 81 6))) x2) 84 (Int.toNat (wr ((pm_up (pm_up σ 82 (Int.toNat (wr (σ 81 6))) x1) 83 (Int.toNat (wr ((pm_up σ 82 (Int.toNat (wr (σ 81 6))) x1) 81 6))) x2) 81 6))) x3) 81 6))) x4) 81 6))) x5) 87 (Int.toNat (wr ((pm_up (pm_up (pm_up (pm_up (pm_up σ 82 (Int.toNat (wr (σ 81 6))) x1) 83 (Int.toNat (wr ((pm_up σ 82 (Int.toNat (wr (σ 81 6))) x1) 81 6))) x2) 84 (Int.toNat (wr ((pm_up (pm_up σ 82 (Int.toNat (wr (σ 81 6))) x1) 83 (Int.toNat (wr ((pm_up σ 82 (Int.toNat (wr (σ 81 6))) x1) 81 6))) x2) 81 6))) x3) 85 (Int.toNat (wr ((pm_up (pm_up (pm_up σ 82 (Int.toNat (wr (σ 81 6))) x1) 83 (Int.toNat (wr ((pm_up σ 82 (Int.toNat (wr (σ 81 6))) x1) 81 6))) x2) 84 (Int.toNat (wr ((pm_up (pm_up σ 82 (Int.toNat (wr (σ 81 6))) x1) 83 (Int.toNat (wr ((pm_up σ 82 (Int.toNat (wr (σ 81 6))) x1) 81 6))) x2) 81 6))) x3) 81 6))) x4) 86 (Int.toNat (wr ((pm_up (pm_up (pm_up (pm_up σ 82 (Int.toNat (wr (σ 81 6))) x1) 83 (Int.toNat (wr ((pm_up σ 82 (Int.toNat (wr (σ 81 6))) x1) 81 6))) x2) 84 (Int.toNat (wr ((pm_up (pm_up σ 82 (Int.toNat (wr (σ 81 6))) x1) 83 (Int.toNat (wr ((pm_up σ 82 (Int.toNat (wr (σ 81 6))) x1) 81 6))) x2) 81 6))) x3) 85 (Int.toNat (wr ((pm_up (pm_up (pm_up σ 82 (Int.toNat (wr (σ 81 6))) x1) 83 (Int.toNat (wr ((pm_up σ 82 (Int.toNat (wr (σ 81 6))) x1) 81 6))) x2) 84 (Int.toNat (wr ((pm_up (pm_up σ 82 (Int.toNat (wr (σ 81 6))) x1) 83 (Int.toNat (wr ((pm_up σ 82 (Int.toNat (wr (σ 81 6))) x1) 81 6))) x2) 81 6))) x3) 81 6))) x4) 81 6))) x5) 81 6))) (-9)) 81 6) + 1)) 81 6) - 1), (pm_up (pm_up (pm_up (pm_up (pm_up (pm_up (pm_up σ 82 (Int.toNat (wr (σ 81 6))) x1) 83 (Int.toNat (wr ((pm_up σ 82 (Int.toNat (wr (σ 81 6))) x1) 81 6))) x2) 84 (Int.toNat (wr ((pm_up (pm_up σ 82 (Int.toNat (wr (σ 81 6))) x1) 83 (Int.toNat (wr ((pm_up σ 82 (Int.toNat (wr (σ 81 6))) x1) 81 6))) x2) 81 6))) x3) 85 (Int.toNat (wr ((pm_up (pm_up (pm_up σ 82 (Int.toNat (wr (σ 81 6))) x1) 83 (Int.toNat (wr ((pm_up σ 82 (Int.toNat (wr (σ 81 6))) x1) 81 6))) x2) 84 (Int.toNat (wr ((pm_up (pm_up σ 82 (Int.toNat (wr (σ 81 6))) x1) 83 (Int.toNat (wr ((pm_up σ 82 (Int.toNat (wr (σ 81 6))) x1) 81 6))) x2) 81 6))) x3) 81 6))) x4) 86 (Int.toNat (wr ((pm_up (pm_up (pm_up (pm_up σ 82 (Int.toNat (wr (σ 81 6))) x1) 83 (Int.toNat (wr ((pm_up σ 82 (Int.toNat (wr (σ 81 6))) x1) 81 6))) x2) 84 (Int.toNat (wr ((pm_up (pm_up σ 82 (Int.toNat (wr (σ 81 6))) x1) 83 (Int.toNat (wr ((pm_up σ 82 (Int.toNat (wr (σ 81 6))) x1) 81 6))) x2) 81 6))) x3) 85 (Int.toNat (wr ((pm_up (pm_up (pm_up σ 82 (Int.toNat (wr (σ 81 6))) x1) 83 (Int.toNat (wr ((pm_up σ 82 (Int.toNat (wr (σ 81 6))) x1) 81 6))) x2) 84 (Int.toNat (wr ((pm_up (pm_up σ 82 (Int.toNat (wr (σ 81 6))) x1) 83 (Int.toNat (wr ((pm_up σ 82 (Int.toNat (wr (σ 81 6))) x1) 81 6))) x2) 81 6))) x3) 81 6))) x4) 81 6))) x5) 87 (Int.toNat (wr ((pm_up (pm_up (pm_up (pm_up (pm_up σ 82 (Int.toNat (wr (σ 81 6))) x1) 83 (Int.toNat (wr ((pm_up σ 82 (Int.toNat (wr (σ 81 6))) x1) 81 6))) x2) 84 (Int.toNat (wr ((pm_up (pm_up σ 82 (Int.toNat (wr (σ 81 6))) x1) 83 (Int.toNat (wr ((pm_up σ 82 (Int.toNat (wr (σ 81 6))) x1) 81 6))) x2) 81 6))) x3) 85 (Int.toNat (wr ((pm_up (pm_up (pm_up σ 82 (Int.toNat (wr (σ 81 6))) x1) 83 (Int.toNat (wr ((pm_up σ 82 (Int.toNat (wr (σ 81 6))) x1) 81 6))) x2) 84 (Int.toNat (wr ((pm_up (pm_up σ 82 (Int.toNat (wr (σ 81 6))) x1) 83 (Int.toNat (wr ((pm_up σ 82 (Int.toNat (wr (σ 81 6))) x1) 81 6))) x2) 81 6))) x3) 81 6))) x4) 86 (Int.toNat (wr ((pm_up (pm_up (pm_up (pm_up σ 82 (Int.toNat (wr (σ 81 6))) x1) 83 (Int.toNat (wr ((pm_up σ 82 (Int.toNat (wr (σ 81 6))) x1) 81 6))) x2) 84 (Int.toNat (wr ((pm_up (pm_up σ 82 (Int.toNat (wr (σ 81 6))) x1) 83 (Int.toNat (wr ((pm_up σ 82 (Int.toNat (wr (σ 81 6))) x1) 81 6))) x2) 81 6))) x3) 85 (Int.toNat (wr ((pm_up (pm_up (pm_up σ 82 (Int.toNat (wr (σ 81 6))) x1) 83 (Int.toNat (wr ((pm_up σ 82 (Int.toNat (wr (σ 81 6))) x1) 81 6))) x2) 84 (Int.toNat (wr ((pm_up (pm_up σ 82 (Int.toNat (wr (σ 81 6))) x1) 83 (Int.toNat (wr ((pm_up σ 82 (Int.toNat (wr (σ 81 6))) x1) 81 6))) x2) 81 6))) x3) 81 6))) x4) 81 6))) x5) 81 6))) (-9)) 81 6 (((pm_up (pm_up (pm_up (pm_up (pm_up (pm_up σ 82 (Int.toNat (wr (σ 81 6))) x1) 83 (Int.toNat (wr ((pm_up σ 82 (Int.toNat (wr (σ 81 6))) x1) 81 6))) x2) 84 (Int.toNat (wr ((pm_up (pm_up σ 82 (Int.toNat (wr (σ 81 6))) x1) 83 (Int.toNat (wr ((pm_up σ 82 (Int.toNat (wr (σ 81 6))) x1) 81 6))) x2) 81 6))) x3) 85 (Int.toNat (wr ((pm_up (pm_up (pm_up σ 82 (Int.toNat (wr (σ 81 6))) x1) 83 (Int.toNat (wr ((pm_up σ 82 (Int.toNat (wr (σ 81 6))) x1) 81 6))) x2) 84 (Int.toNat (wr ((pm_up (pm_up σ 82 (Int.toNat (wr (σ 81 6))) x1) 83 (Int.toNat (wr ((pm_up σ 82 (Int.toNat (wr (σ 81 6))) x1) 81 6))) x2) 81 6))) x3) 81 6))) x4) 86 (Int.toNat (wr ((pm_up (pm_up (pm_up (pm_up σ 82 (Int.toNat (wr (σ 81 6))) x1) 83 (Int.toNat (wr ((pm_up σ 82 (Int.toNat (wr (σ 81 6))) x1) 81 6))) x2) 84 (Int.toNat (wr ((pm_up (pm_up σ 82 (Int.toNat (wr (σ 81 6))) x1) 83 (Int.toNat (wr ((pm_up σ 82 (Int.toNat (wr (σ 81 6))) x1) 81 6))) x2) 81 6))) x3) 85 (Int.toNat (wr ((pm_up (pm_up (pm_up σ 82 (Int.toNat (wr (σ 81 6))) x1) 83 (Int.toNat (wr ((pm_up σ 82 (Int.toNat (wr (σ 81 6))) x1) 81 6))) x2) 84 (Int.toNat (wr ((pm_up (pm_up σ 82 (Int.toNat (wr (σ 81 6))) x1) 83 (Int.toNat (wr ((pm_up σ 82 (Int.toNat (wr (σ 81 6))) x1) 81 6))) x2) 81 6))) x3) 81 6))) x4) 81 6))) x5) 87 (Int.toNat (wr ((pm_up (pm_up (pm_up (pm_up (pm_up σ 82 (Int.toNat (wr (σ 81 6))) x1) 83 (Int.toNat (wr ((pm_up σ 82 (Int.toNat (wr (σ 81 6))) x1) 81 6))) x2) 84 (Int.toNat (wr ((pm_up (pm_up σ 82 (Int.toNat (wr (σ 81 6))) x1) 83 (Int.toNat (wr ((pm_up σ 82 (Int.toNat (wr (σ 81 6))) x1) 81 6))) x2) 81 6))) x3) 85 (Int.toNat (wr ((pm_up (pm_up (pm_up σ 82 (Int.toNat (wr (σ 81 6))) x1) 83 (Int.toNat (wr ((pm_up σ 82 (Int.toNat (wr (σ 81 6))) x1) 81 6))) x2) 84 (Int.toNat (wr ((pm_up (pm_up σ 82 (Int.toNat (wr (σ 81 6))) x1) 83 (Int.toNat (wr ((pm_up σ 82 (Int.toNat (wr (σ 81 6))) x1) 81 6))) x2) 81 6))) x3) 81 6))) x4) 86 (Int.toNat (wr ((pm_up (pm_up (pm_up (pm_up σ 82 (Int.toNat (wr (σ 81 6))) x1) 83 (Int.toNat (wr ((pm_up σ 82 (Int.toNat (wr (σ 81 6))) x1) 81 6))) x2) 84 (Int.toNat (wr ((pm_up (pm_up σ 82 (Int.toNat (wr (σ 81 6))) x1) 83 (Int.toNat (wr ((pm_up σ 82 (Int.toNat (wr (σ 81 6))) x1) 81 6))) x2) 81 6))) x3) 85 (Int.toNat (wr ((pm_up (pm_up (pm_up σ 82 (Int.toNat (wr (σ 81 6))) x1) 83 (Int.toNat (wr ((pm_up σ 82 (Int.toNat (wr (σ 81 6))) x1) 81 6))) x2) 84 (Int.toNat (wr ((pm_up (pm_up σ 82 (Int.toNat (wr (σ 81 6))) x1) 83 (Int.toNat (wr ((pm_up σ 82 (Int.toNat (wr (σ 81 6))) x1) 81 6))) x2) 81 6))) x3) 81 6))) x4) 81 6))) x5) 81 6))) (-9)) 81 6) + 1)))))))))
set_option maxHeartbeats 4000000 in
set_option maxRecDepth 100000 in
theorem tmX5_take {x1 : Int} {x2 : Int} {x3 : Int} {x4 : Int} {x5 : Int} {σ : pm_M} {ρ : Int × pm_M} (h : fX5_take x1 x2 x3 x4 x5 σ = some ρ) : pm_C mX5_take 0 0 [pv_r 81, pv_i x1, pv_i x2, pv_i x3, pv_i x4, pv_i x5] LAYC σ (some (pv_i ρ.1)) LAYC ρ.2 := by
  refine pm_C.of rfl rfl (by decide) ?_
  show pm_J mX5_take 0 0 LAYC (some (pv_i ρ.1)) LAYC ρ.2 0 [some (pv_r 81), some (pv_i x1), some (pv_i x2), some (pv_i x3), some (pv_i x4), some (pv_i x5)] [] LAYC σ
  unfold fX5_take at h
  refine pr_aload_n dX5_take_0 rfl ?_
  refine pr_getR dX5_take_1 lk_X5_9 lc_81 rfl ?_
  refine pr_aload_n dX5_take_4 rfl ?_
  refine pr_getI dX5_take_5 lk_X5_33 lc_81 rfl ?_
  refine pr_iload_n dX5_take_8 rfl ?_
  obtain ⟨g_1, h⟩ := pm_gs h
  refine pr_iast dX5_take_9 lc_82 rfl g_1 ?_
  refine pr_aload_n dX5_take_10 rfl ?_
  refine pr_getR dX5_take_11 lk_X5_15 lc_81 rfl ?_
  refine pr_aload_n dX5_take_14 rfl ?_
  refine pr_getI dX5_take_15 lk_X5_33 lc_81 rfl ?_
  refine pr_iload_n dX5_take_18 rfl ?_
  obtain ⟨g_2, h⟩ := pm_gs h
  refine pr_iast dX5_take_19 lc_83 rfl g_2 ?_
  refine pr_aload_n dX5_take_20 rfl ?_
  refine pr_getR dX5_take_21 lk_X5_18 lc_81 rfl ?_
  refine pr_aload_n dX5_take_24 rfl ?_
  refine pr_getI dX5_take_25 lk_X5_33 lc_81 rfl ?_
  refine pr_iload_n dX5_take_28 rfl ?_
  obtain ⟨g_3, h⟩ := pm_gs h
  refine pr_iast dX5_take_29 lc_84 rfl g_3 ?_
  refine pr_aload_n dX5_take_30 rfl ?_
  refine pr_getR dX5_take_31 lk_X5_21 lc_81 rfl ?_
  refine pr_aload_n dX5_take_34 rfl ?_
  refine pr_getI dX5_take_35 lk_X5_33 lc_81 rfl ?_
  refine pr_iload dX5_take_38 rfl ?_
  obtain ⟨g_4, h⟩ := pm_gs h
  refine pr_iast dX5_take_40 lc_85 rfl g_4 ?_
  refine pr_aload_n dX5_take_41 rfl ?_
  refine pr_getR dX5_take_42 lk_X5_24 lc_81 rfl ?_
  refine pr_aload_n dX5_take_45 rfl ?_
  refine pr_getI dX5_take_46 lk_X5_33 lc_81 rfl ?_
  refine pr_iload dX5_take_49 rfl ?_
  obtain ⟨g_5, h⟩ := pm_gs h
  refine pr_iast dX5_take_51 lc_86 rfl g_5 ?_
  refine pr_aload_n dX5_take_52 rfl ?_
  refine pr_getR dX5_take_53 lk_X5_27 lc_81 rfl ?_
  refine pr_aload_n dX5_take_56 rfl ?_
  refine pr_getI dX5_take_57 lk_X5_33 lc_81 rfl ?_
  refine pr_bipush dX5_take_60 (by decide) ?_
  obtain ⟨g_6, h⟩ := pm_gs h
  refine pr_iast dX5_take_62 lc_87 rfl g_6 ?_
  refine pr_aload_n dX5_take_63 rfl ?_
  refine pr_dup dX5_take_64 rfl ?_
  refine pr_getI dX5_take_65 lk_X5_33 lc_81 rfl ?_
  refine pr_iconst dX5_take_68 ?_
  refine pr_iadd dX5_take_69 ?_
  refine pr_putI dX5_take_70 lp_X5_33 lc_81 rfl ?_
  refine pr_aload_n dX5_take_73 rfl ?_
  refine pr_getI dX5_take_74 lk_X5_33 lc_81 rfl ?_
  refine pr_iconst dX5_take_77 ?_
  refine pr_isub dX5_take_78 ?_
  have h := Option.some.inj h
  subst h
  exact pr_iret dX5_take_79 rfl
def fX5_isOpen (x1 : Int) (σ : pm_M) : Option (Int) :=
  pm_g (0 ≤ (wr x1) ∧ (wr x1) < 12) (if (wr (σ 87 (Int.toNat (wr x1)))) = (-9) then (some 1) else (some 0))
set_option maxHeartbeats 4000000 in
set_option maxRecDepth 100000 in
theorem tmX5_isOpen {x1 : Int} {σ : pm_M} {ρ : Int} (h : fX5_isOpen x1 σ = some ρ) : pm_C mX5_isOpen 0 0 [pv_r 81, pv_i x1] LAYC σ (some (pv_i ρ)) LAYC σ := by
  refine pm_C.of rfl rfl (by decide) ?_
  show pm_J mX5_isOpen 0 0 LAYC (some (pv_i ρ)) LAYC σ 0 [some (pv_r 81), some (pv_i x1)] [] LAYC σ
  unfold fX5_isOpen at h
  refine pr_aload_n dX5_isOpen_0 rfl ?_
  refine pr_getR dX5_isOpen_1 lk_X5_27 lc_81 rfl ?_
  refine pr_iload_n dX5_isOpen_4 rfl ?_
  obtain ⟨g_1, h⟩ := pm_gs h
  refine pr_iald dX5_isOpen_5 lc_87 rfl g_1 ?_
  refine pr_bipush dX5_isOpen_6 (by decide) ?_
  refine pr_icmp_ne (tgt := 15) dX5_isOpen_8 rfl (wr_eq (by decide) (by decide)) (by decide) (fun c_2 => ?_) (fun c_2 => ?_)
  · have h := pm_ng c_2 h
    refine pr_iconst dX5_isOpen_15 ?_
    have h := Option.some.inj h
    subst h
    exact pr_zret dX5_isOpen_16 rfl (Or.inl rfl)
  · have h := pm_pos c_2 h
    refine pr_iconst dX5_isOpen_11 ?_
    refine pr_goto (tgt := 16) dX5_isOpen_12 (by decide) ?_
    have h := Option.some.inj h
    subst h
    exact pr_zret dX5_isOpen_16 rfl (Or.inr rfl)
def bdX5_open_4 (σ : pm_M) (z1 : Int) (z2 : Int) : Option ((Int × Int) ⊕ (Int × Int)) :=
  if (wr (σ 81 6)) ≤ (wr z2) then (some (.inl (z1, z2))) else ((fX5_isOpen z2 σ).bind fun q2 => if (wr q2) = 0 then (some (.inr (z1, (z2 + 1)))) else (some (.inr ((z1 + 1), (z2 + 1)))))
set_option maxHeartbeats 4000000 in
set_option maxRecDepth 100000 in
theorem tbX5_open_4 {lay0 lay' : List pm_S} {r : Option pm_V} {σ' : pm_M} (σ : pm_M) : ∀ (a : Int × Int) (e : (Int × Int) ⊕ (Int × Int)), (fun a => bdX5_open_4 σ a.1 a.2) a = some e → (∀ a, e = .inr a → (fun a => pm_J mX5_open 1 21 lay0 r lay' σ' 4 [some (pv_r 81), some (pv_i a.1), some (pv_i a.2)] [] LAYC σ) a) → (∀ a, e = .inl a → (fun a => pm_J mX5_open 1 21 lay0 r lay' σ' 29 [none, some (pv_i a.1), none] [] LAYC σ) a) → (fun a => pm_J mX5_open 1 21 lay0 r lay' σ' 4 [some (pv_r 81), some (pv_i a.1), some (pv_i a.2)] [] LAYC σ) a := by
  intro a e h hc hx
  obtain ⟨z1, z2⟩ := a
  have h : bdX5_open_4 σ z1 z2 = some e := h
  unfold bdX5_open_4 at h
  show pm_J mX5_open 1 21 lay0 r lay' σ' 4 [some (pv_r 81), some (pv_i z1), some (pv_i z2)] [] LAYC σ
  refine pr_iload_n dX5_open_4 rfl ?_
  refine pr_aload_n dX5_open_5 rfl ?_
  refine pr_getI dX5_open_6 lk_X5_33 lc_81 rfl ?_
  refine pr_icmp_ge (tgt := 29) dX5_open_9 rfl rfl (by decide) (fun c_1 => ?_) (fun c_1 => ?_)
  · have h := pm_pos c_1 h
    refine pr_weak (L2 := [none, some (pv_i z1), none]) ⟨Or.inl rfl, Or.inr rfl, Or.inl rfl, trivial⟩ ?_
    exact hx _ (Option.some.inj h).symm
  · have h := pm_ng c_1 h
    refine pr_aload_n dX5_open_12 rfl ?_
    refine pr_iload_n dX5_open_13 rfl ?_
    obtain ⟨q2, e3, h⟩ := pm_bs h
    refine pr_callV (As := [pv_i z2]) (S := []) (t := 81) dX5_open_14 mk_X5_37 lc_81 (ci := 5) (q := (RX5, TX5, 10)) rfl rfl rfl rfl (by decide) (by decide) (by decide) (Or.inl rfl) (tmX5_isOpen e3) ?_
    refine pr_if_eq (tgt := 23) dX5_open_17 rfl (by decide) (fun c_4 => ?_) (fun c_4 => ?_)
    · have h := pm_pos c_4 h
      refine pr_iinc dX5_open_23 rfl (by decide) rfl ?_
      refine pr_goto (tgt := 4) dX5_open_26 (by decide) ?_
      refine pr_weak (L2 := [some (pv_r 81), some (pv_i z1), some (pv_i (z2 + 1))]) ⟨Or.inr rfl, Or.inr rfl, Or.inr rfl, trivial⟩ ?_
      exact hc _ (Option.some.inj h).symm
    · have h := pm_ng c_4 h
      refine pr_iinc dX5_open_20 rfl (by decide) rfl ?_
      refine pr_iinc dX5_open_23 rfl (by decide) rfl ?_
      refine pr_goto (tgt := 4) dX5_open_26 (by decide) ?_
      refine pr_weak (L2 := [some (pv_r 81), some (pv_i (z1 + 1)), some (pv_i (z2 + 1))]) ⟨Or.inr rfl, Or.inr rfl, Or.inr rfl, trivial⟩ ?_
      exact hc _ (Option.some.inj h).symm
def fX5_open (σ : pm_M) : Option (Int) :=
  (pm_it (fun a => bdX5_open_4 σ a.1 a.2) pm_fuel (0, 0)).bind fun v5 => some v5.1
set_option maxHeartbeats 4000000 in
set_option maxRecDepth 100000 in
theorem tmX5_open {σ : pm_M} {ρ : Int} (h : fX5_open σ = some ρ) : pm_C mX5_open 1 21 [pv_r 81] LAYC σ (some (pv_i ρ)) LAYC σ := by
  refine pm_C.of rfl rfl (by decide) ?_
  show pm_J mX5_open 1 21 LAYC (some (pv_i ρ)) LAYC σ 0 [some (pv_r 81), none, none] [] LAYC σ
  unfold fX5_open at h
  refine pr_iconst dX5_open_0 ?_
  refine pr_istore_n dX5_open_1 (by decide) rfl ?_
  refine pr_iconst dX5_open_2 ?_
  refine pr_istore_n dX5_open_3 (by decide) rfl ?_
  obtain ⟨v5, e6, h⟩ := pm_bs h
  refine pr_weak (L2 := [some (pv_r 81), some (pv_i 0), some (pv_i 0)]) ⟨Or.inr rfl, Or.inr rfl, Or.inr rfl, trivial⟩ ?_
  refine pm_it_J (P := fun a => pm_J mX5_open 1 21 LAYC (some (pv_i ρ)) LAYC σ 4 [some (pv_r 81), some (pv_i a.1), some (pv_i a.2)] [] LAYC σ) (Rx := fun a => pm_J mX5_open 1 21 LAYC (some (pv_i ρ)) LAYC σ 29 [none, some (pv_i a.1), none] [] LAYC σ) (tbX5_open_4 σ) _ _ _ e6 ?_
  show pm_J mX5_open 1 21 LAYC (some (pv_i ρ)) LAYC σ 29 [none, some (pv_i v5.1), none] [] LAYC σ
  refine pr_iload_n dX5_open_29 rfl ?_
  have h := Option.some.inj h
  subst h
  exact pr_iret dX5_open_30 rfl
def fX5_coinsFor (x1 : Int) (x2 : Int) (x3 : Int) (σ : pm_M) : Option (Int) :=
  pm_g (0 ≤ (wr x1) ∧ (wr x1) < 12) (if (wr x2) ≤ (wr (σ 85 (Int.toNat (wr x1)))) then (pm_g (0 ≤ (wr x1) ∧ (wr x1) < 12) (pm_g (0 ≤ (wr x1) ∧ (wr x1) < 12) (some ((σ 84 (Int.toNat (wr x1))) * ((σ 86 (Int.toNat (wr x1))) - x3))))) else (pm_g (0 ≤ (wr x1) ∧ (wr x1) < 12) (pm_g (0 ≤ (wr x1) ∧ (wr x1) < 12) (some ((σ 84 (Int.toNat (wr x1))) * ((Int.tdiv (wr (σ 86 (Int.toNat (wr x1)))) 2) - x3))))))
set_option maxHeartbeats 4000000 in
set_option maxRecDepth 100000 in
theorem tmX5_coinsFor {x1 : Int} {x2 : Int} {x3 : Int} {σ : pm_M} {ρ : Int} (h : fX5_coinsFor x1 x2 x3 σ = some ρ) : pm_C mX5_coinsFor 0 0 [pv_r 81, pv_i x1, pv_i x2, pv_i x3] LAYC σ (some (pv_i ρ)) LAYC σ := by
  refine pm_C.of rfl rfl (by decide) ?_
  show pm_J mX5_coinsFor 0 0 LAYC (some (pv_i ρ)) LAYC σ 0 [some (pv_r 81), some (pv_i x1), some (pv_i x2), some (pv_i x3), none] [] LAYC σ
  unfold fX5_coinsFor at h
  refine pr_iload_n dX5_coinsFor_0 rfl ?_
  refine pr_aload_n dX5_coinsFor_1 rfl ?_
  refine pr_getR dX5_coinsFor_2 lk_X5_21 lc_81 rfl ?_
  refine pr_iload_n dX5_coinsFor_5 rfl ?_
  obtain ⟨g_1, h⟩ := pm_gs h
  refine pr_iald dX5_coinsFor_6 lc_85 rfl g_1 ?_
  refine pr_icmp_le (tgt := 21) dX5_coinsFor_7 rfl rfl (by decide) (fun c_2 => ?_) (fun c_2 => ?_)
  · have h := pm_pos c_2 h
    refine pr_aload_n dX5_coinsFor_21 rfl ?_
    refine pr_getR dX5_coinsFor_22 lk_X5_24 lc_81 rfl ?_
    refine pr_iload_n dX5_coinsFor_25 rfl ?_
    obtain ⟨g_3, h⟩ := pm_gs h
    refine pr_iald dX5_coinsFor_26 lc_86 rfl g_3 ?_
    refine pr_istore dX5_coinsFor_27 (by decide) rfl ?_
    refine pr_aload_n dX5_coinsFor_29 rfl ?_
    refine pr_getR dX5_coinsFor_30 lk_X5_18 lc_81 rfl ?_
    refine pr_iload_n dX5_coinsFor_33 rfl ?_
    obtain ⟨g_4, h⟩ := pm_gs h
    refine pr_iald dX5_coinsFor_34 lc_84 rfl g_4 ?_
    refine pr_iload dX5_coinsFor_35 rfl ?_
    refine pr_iload_n dX5_coinsFor_37 rfl ?_
    refine pr_isub dX5_coinsFor_38 ?_
    refine pr_imul dX5_coinsFor_39 ?_
    have h := Option.some.inj h
    subst h
    exact pr_iret dX5_coinsFor_40 rfl
  · have h := pm_ng c_2 h
    refine pr_aload_n dX5_coinsFor_10 rfl ?_
    refine pr_getR dX5_coinsFor_11 lk_X5_24 lc_81 rfl ?_
    refine pr_iload_n dX5_coinsFor_14 rfl ?_
    obtain ⟨g_5, h⟩ := pm_gs h
    refine pr_iald dX5_coinsFor_15 lc_86 rfl g_5 ?_
    refine pr_iconst dX5_coinsFor_16 ?_
    refine pr_idiv dX5_coinsFor_17 rfl (wr_eq (by decide) (by decide)) (by decide) ?_
    refine pr_goto (tgt := 27) dX5_coinsFor_18 (by decide) ?_
    refine pr_istore dX5_coinsFor_27 (by decide) rfl ?_
    refine pr_aload_n dX5_coinsFor_29 rfl ?_
    refine pr_getR dX5_coinsFor_30 lk_X5_18 lc_81 rfl ?_
    refine pr_iload_n dX5_coinsFor_33 rfl ?_
    obtain ⟨g_6, h⟩ := pm_gs h
    refine pr_iald dX5_coinsFor_34 lc_84 rfl g_6 ?_
    refine pr_iload dX5_coinsFor_35 rfl ?_
    refine pr_iload_n dX5_coinsFor_37 rfl ?_
    refine pr_isub dX5_coinsFor_38 ?_
    refine pr_imul dX5_coinsFor_39 ?_
    have h := Option.some.inj h
    subst h
    exact pr_iret dX5_coinsFor_40 rfl
def bdX5_sortByDue_25 (y1 : Int) (y2 : Int) (z3 : Int) (σ : pm_M) : Option ((Int × pm_M) ⊕ (Int × pm_M)) :=
  if (wr z3) ≤ 0 then (some (.inl (z3, σ))) else (pm_g (0 ≤ (wr (z3 - 1)) ∧ (wr (z3 - 1)) < 12) (pm_g (0 ≤ (wr (σ 88 (Int.toNat (wr (z3 - 1))))) ∧ (wr (σ 88 (Int.toNat (wr (z3 - 1))))) < 12) (pm_g (0 ≤ (wr y2) ∧ (wr y2) < 12) (if (wr (σ 85 (Int.toNat (wr (σ 88 (Int.toNat (wr (z3 - 1)))))))) ≤ (wr (σ 85 (Int.toNat (wr y2)))) then (some (.inl (z3, σ))) else (pm_g (0 ≤ (wr (z3 - 1)) ∧ (wr (z3 - 1)) < 12) (pm_g (0 ≤ (wr z3) ∧ (wr z3) < 12) (some (.inr ((z3 + (-1)), (pm_up σ 88 (Int.toNat (wr z3)) (σ 88 (Int.toNat (wr (z3 - 1))))))))))))))
set_option maxHeartbeats 4000000 in
set_option maxRecDepth 100000 in
theorem tbX5_sortByDue_25 {lay0 lay' : List pm_S} {r : Option pm_V} {σ' : pm_M} (y1 : Int) (y2 : Int) : ∀ (a : Int × pm_M) (e : (Int × pm_M) ⊕ (Int × pm_M)), (fun a => bdX5_sortByDue_25 y1 y2 a.1 a.2) a = some e → (∀ a, e = .inr a → (fun a => pm_J mX5_sortByDue 1 21 lay0 r lay' σ' 25 [some (pv_r 81), some (pv_i y1), some (pv_i y2), some (pv_i a.1)] [] LAYC a.2) a) → (∀ a, e = .inl a → (fun a => pm_J mX5_sortByDue 1 21 lay0 r lay' σ' 71 [some (pv_r 81), some (pv_i y1), some (pv_i y2), some (pv_i a.1)] [] LAYC a.2) a) → (fun a => pm_J mX5_sortByDue 1 21 lay0 r lay' σ' 25 [some (pv_r 81), some (pv_i y1), some (pv_i y2), some (pv_i a.1)] [] LAYC a.2) a := by
  intro a e h hc hx
  obtain ⟨z3, σ⟩ := a
  have h : bdX5_sortByDue_25 y1 y2 z3 σ = some e := h
  unfold bdX5_sortByDue_25 at h
  show pm_J mX5_sortByDue 1 21 lay0 r lay' σ' 25 [some (pv_r 81), some (pv_i y1), some (pv_i y2), some (pv_i z3)] [] LAYC σ
  refine pr_iload_n dX5_sortByDue_25 rfl ?_
  refine pr_if_le (tgt := 71) dX5_sortByDue_26 rfl (by decide) (fun c_5 => ?_) (fun c_5 => ?_)
  · have h := pm_pos c_5 h
    refine pr_weak (L2 := [some (pv_r 81), some (pv_i y1), some (pv_i y2), some (pv_i z3)]) ⟨Or.inr rfl, Or.inr rfl, Or.inr rfl, Or.inr rfl, trivial⟩ ?_
    exact hx _ (Option.some.inj h).symm
  · have h := pm_ng c_5 h
    refine pr_aload_n dX5_sortByDue_29 rfl ?_
    refine pr_getR dX5_sortByDue_30 lk_X5_21 lc_81 rfl ?_
    refine pr_aload_n dX5_sortByDue_33 rfl ?_
    refine pr_getR dX5_sortByDue_34 lk_X5_30 lc_81 rfl ?_
    refine pr_iload_n dX5_sortByDue_37 rfl ?_
    refine pr_iconst dX5_sortByDue_38 ?_
    refine pr_isub dX5_sortByDue_39 ?_
    obtain ⟨g_6, h⟩ := pm_gs h
    refine pr_iald dX5_sortByDue_40 lc_88 rfl g_6 ?_
    obtain ⟨g_7, h⟩ := pm_gs h
    refine pr_iald dX5_sortByDue_41 lc_85 rfl g_7 ?_
    refine pr_aload_n dX5_sortByDue_42 rfl ?_
    refine pr_getR dX5_sortByDue_43 lk_X5_21 lc_81 rfl ?_
    refine pr_iload_n dX5_sortByDue_46 rfl ?_
    obtain ⟨g_8, h⟩ := pm_gs h
    refine pr_iald dX5_sortByDue_47 lc_85 rfl g_8 ?_
    refine pr_icmp_le (tgt := 71) dX5_sortByDue_48 rfl rfl (by decide) (fun c_9 => ?_) (fun c_9 => ?_)
    · have h := pm_pos c_9 h
      refine pr_weak (L2 := [some (pv_r 81), some (pv_i y1), some (pv_i y2), some (pv_i z3)]) ⟨Or.inr rfl, Or.inr rfl, Or.inr rfl, Or.inr rfl, trivial⟩ ?_
      exact hx _ (Option.some.inj h).symm
    · have h := pm_ng c_9 h
      refine pr_aload_n dX5_sortByDue_51 rfl ?_
      refine pr_getR dX5_sortByDue_52 lk_X5_30 lc_81 rfl ?_
      refine pr_iload_n dX5_sortByDue_55 rfl ?_
      refine pr_aload_n dX5_sortByDue_56 rfl ?_
      refine pr_getR dX5_sortByDue_57 lk_X5_30 lc_81 rfl ?_
      refine pr_iload_n dX5_sortByDue_60 rfl ?_
      refine pr_iconst dX5_sortByDue_61 ?_
      refine pr_isub dX5_sortByDue_62 ?_
      obtain ⟨g_10, h⟩ := pm_gs h
      refine pr_iald dX5_sortByDue_63 lc_88 rfl g_10 ?_
      obtain ⟨g_11, h⟩ := pm_gs h
      refine pr_iast dX5_sortByDue_64 lc_88 rfl g_11 ?_
      refine pr_iinc dX5_sortByDue_65 rfl (by decide) rfl ?_
      refine pr_goto (tgt := 25) dX5_sortByDue_68 (by decide) ?_
      refine pr_weak (L2 := [some (pv_r 81), some (pv_i y1), some (pv_i y2), some (pv_i (z3 + (-1)))]) ⟨Or.inr rfl, Or.inr rfl, Or.inr rfl, Or.inr rfl, trivial⟩ ?_
      exact hc _ (Option.some.inj h).symm
def bdX5_sortByDue_4 (z1 : Int) (z2 : Int) (σ : pm_M) : Option ((Int × Int × pm_M) ⊕ (Int × Int × pm_M)) :=
  if (wr (σ 81 6)) ≤ (wr z2) then (some (.inl (z1, z2, σ))) else ((fX5_isOpen z2 σ).bind fun q2 => if (wr q2) = 0 then (some (.inr (z1, (z2 + 1), σ))) else ((pm_it (fun a => bdX5_sortByDue_25 z1 z2 a.1 a.2) pm_fuel (z1, σ)).bind fun v12 => pm_g (0 ≤ (wr v12.1) ∧ (wr v12.1) < 12) (some (.inr ((z1 + 1), (z2 + 1), (pm_up v12.2 88 (Int.toNat (wr v12.1)) z2))))))
set_option maxHeartbeats 4000000 in
set_option maxRecDepth 100000 in
theorem tbX5_sortByDue_4 {lay0 lay' : List pm_S} {r : Option pm_V} {σ' : pm_M} : ∀ (a : Int × Int × pm_M) (e : (Int × Int × pm_M) ⊕ (Int × Int × pm_M)), (fun a => bdX5_sortByDue_4 a.1 a.2.1 a.2.2) a = some e → (∀ a, e = .inr a → (fun a => pm_J mX5_sortByDue 1 21 lay0 r lay' σ' 4 [some (pv_r 81), some (pv_i a.1), some (pv_i a.2.1), none] [] LAYC a.2.2) a) → (∀ a, e = .inl a → (fun a => pm_J mX5_sortByDue 1 21 lay0 r lay' σ' 87 [none, some (pv_i a.1), none, none] [] LAYC a.2.2) a) → (fun a => pm_J mX5_sortByDue 1 21 lay0 r lay' σ' 4 [some (pv_r 81), some (pv_i a.1), some (pv_i a.2.1), none] [] LAYC a.2.2) a := by
  intro a e h hc hx
  obtain ⟨z1, z2, σ⟩ := a
  have h : bdX5_sortByDue_4 z1 z2 σ = some e := h
  unfold bdX5_sortByDue_4 at h
  show pm_J mX5_sortByDue 1 21 lay0 r lay' σ' 4 [some (pv_r 81), some (pv_i z1), some (pv_i z2), none] [] LAYC σ
  refine pr_iload_n dX5_sortByDue_4 rfl ?_
  refine pr_aload_n dX5_sortByDue_5 rfl ?_
  refine pr_getI dX5_sortByDue_6 lk_X5_33 lc_81 rfl ?_
  refine pr_icmp_ge (tgt := 87) dX5_sortByDue_9 rfl rfl (by decide) (fun c_1 => ?_) (fun c_1 => ?_)
  · have h := pm_pos c_1 h
    refine pr_weak (L2 := [none, some (pv_i z1), none, none]) ⟨Or.inl rfl, Or.inr rfl, Or.inl rfl, Or.inl rfl, trivial⟩ ?_
    exact hx _ (Option.some.inj h).symm
  · have h := pm_ng c_1 h
    refine pr_aload_n dX5_sortByDue_12 rfl ?_
    refine pr_iload_n dX5_sortByDue_13 rfl ?_
    obtain ⟨q2, e3, h⟩ := pm_bs h
    refine pr_callV (As := [pv_i z2]) (S := []) (t := 81) dX5_sortByDue_14 mk_X5_37 lc_81 (ci := 5) (q := (RX5, TX5, 10)) rfl rfl rfl rfl (by decide) (by decide) (by decide) (Or.inl rfl) (tmX5_isOpen e3) ?_
    refine pr_if_ne (tgt := 23) dX5_sortByDue_17 rfl (by decide) (fun c_4 => ?_) (fun c_4 => ?_)
    · have h := pm_ng c_4 h
      refine pr_iload_n dX5_sortByDue_23 rfl ?_
      refine pr_istore_n dX5_sortByDue_24 (by decide) rfl ?_
      obtain ⟨v12, e13, h⟩ := pm_bs h
      refine pr_weak (L2 := [some (pv_r 81), some (pv_i z1), some (pv_i z2), some (pv_i z1)]) ⟨Or.inr rfl, Or.inr rfl, Or.inr rfl, Or.inr rfl, trivial⟩ ?_
      refine pm_it_J (P := fun a => pm_J mX5_sortByDue 1 21 lay0 r lay' σ' 25 [some (pv_r 81), some (pv_i z1), some (pv_i z2), some (pv_i a.1)] [] LAYC a.2) (Rx := fun a => pm_J mX5_sortByDue 1 21 lay0 r lay' σ' 71 [some (pv_r 81), some (pv_i z1), some (pv_i z2), some (pv_i a.1)] [] LAYC a.2) (tbX5_sortByDue_25 z1 z2) _ _ _ e13 ?_
      show pm_J mX5_sortByDue 1 21 lay0 r lay' σ' 71 [some (pv_r 81), some (pv_i z1), some (pv_i z2), some (pv_i v12.1)] [] LAYC v12.2
      refine pr_aload_n dX5_sortByDue_71 rfl ?_
      refine pr_getR dX5_sortByDue_72 lk_X5_30 lc_81 rfl ?_
      refine pr_iload_n dX5_sortByDue_75 rfl ?_
      refine pr_iload_n dX5_sortByDue_76 rfl ?_
      obtain ⟨g_14, h⟩ := pm_gs h
      refine pr_iast dX5_sortByDue_77 lc_88 rfl g_14 ?_
      refine pr_iinc dX5_sortByDue_78 rfl (by decide) rfl ?_
      refine pr_iinc dX5_sortByDue_81 rfl (by decide) rfl ?_
      refine pr_goto (tgt := 4) dX5_sortByDue_84 (by decide) ?_
      refine pr_weak (L2 := [some (pv_r 81), some (pv_i (z1 + 1)), some (pv_i (z2 + 1)), none]) ⟨Or.inr rfl, Or.inr rfl, Or.inr rfl, Or.inl rfl, trivial⟩ ?_
      exact hc _ (Option.some.inj h).symm
    · have h := pm_pos c_4 h
      refine pr_goto (tgt := 81) dX5_sortByDue_20 (by decide) ?_
      refine pr_iinc dX5_sortByDue_81 rfl (by decide) rfl ?_
      refine pr_goto (tgt := 4) dX5_sortByDue_84 (by decide) ?_
      refine pr_weak (L2 := [some (pv_r 81), some (pv_i z1), some (pv_i (z2 + 1)), none]) ⟨Or.inr rfl, Or.inr rfl, Or.inr rfl, Or.inl rfl, trivial⟩ ?_
      exact hc _ (Option.some.inj h).symm
def fX5_sortByDue (σ : pm_M) : Option (Int × pm_M) :=
  (pm_it (fun a => bdX5_sortByDue_4 a.1 a.2.1 a.2.2) pm_fuel (0, 0, σ)).bind fun v15 => some (v15.1, v15.2.2)
set_option maxHeartbeats 4000000 in
set_option maxRecDepth 100000 in
theorem tmX5_sortByDue {σ : pm_M} {ρ : Int × pm_M} (h : fX5_sortByDue σ = some ρ) : pm_C mX5_sortByDue 1 21 [pv_r 81] LAYC σ (some (pv_i ρ.1)) LAYC ρ.2 := by
  refine pm_C.of rfl rfl (by decide) ?_
  show pm_J mX5_sortByDue 1 21 LAYC (some (pv_i ρ.1)) LAYC ρ.2 0 [some (pv_r 81), none, none, none] [] LAYC σ
  unfold fX5_sortByDue at h
  refine pr_iconst dX5_sortByDue_0 ?_
  refine pr_istore_n dX5_sortByDue_1 (by decide) rfl ?_
  refine pr_iconst dX5_sortByDue_2 ?_
  refine pr_istore_n dX5_sortByDue_3 (by decide) rfl ?_
  obtain ⟨v15, e16, h⟩ := pm_bs h
  refine pr_weak (L2 := [some (pv_r 81), some (pv_i 0), some (pv_i 0), none]) ⟨Or.inr rfl, Or.inr rfl, Or.inr rfl, Or.inl rfl, trivial⟩ ?_
  refine pm_it_J (P := fun a => pm_J mX5_sortByDue 1 21 LAYC (some (pv_i ρ.1)) LAYC ρ.2 4 [some (pv_r 81), some (pv_i a.1), some (pv_i a.2.1), none] [] LAYC a.2.2) (Rx := fun a => pm_J mX5_sortByDue 1 21 LAYC (some (pv_i ρ.1)) LAYC ρ.2 87 [none, some (pv_i a.1), none, none] [] LAYC a.2.2) (tbX5_sortByDue_4) _ _ _ e16 ?_
  show pm_J mX5_sortByDue 1 21 LAYC (some (pv_i ρ.1)) LAYC ρ.2 87 [none, some (pv_i v15.1), none, none] [] LAYC v15.2.2
  refine pr_iload_n dX5_sortByDue_87 rfl ?_
  have h := Option.some.inj h
  subst h
  exact pr_iret dX5_sortByDue_88 rfl
def fX5_isBetter (x1 : Int) (x2 : Int) (σ : pm_M) : Option (Int) :=
  if (wr x1) = (wr (σ 81 9)) then ((fJ6_bitCount_0f7a4 x2).bind fun q2 => (fJ6_bitCount_0f7a4 (σ 81 8)).bind fun q4 => (fJ6_compare_7cf53 q2 q4).bind fun q6 => if (wr q6) = 0 then (if (wr (σ 81 8)) ≤ (wr x2) then (some 0) else (some 1)) else (if 0 ≤ (wr q6) then (some 0) else (some 1))) else (if (wr x1) ≤ (wr (σ 81 9)) then (some 0) else (some 1))
set_option maxHeartbeats 4000000 in
set_option maxRecDepth 100000 in
theorem tmX5_isBetter {x1 : Int} {x2 : Int} {σ : pm_M} {ρ : Int} (h : fX5_isBetter x1 x2 σ = some ρ) : pm_C mX5_isBetter 1 21 [pv_r 81, pv_i x1, pv_i x2] LAYC σ (some (pv_i ρ)) LAYC σ := by
  refine pm_C.of rfl rfl (by decide) ?_
  show pm_J mX5_isBetter 1 21 LAYC (some (pv_i ρ)) LAYC σ 0 [some (pv_r 81), some (pv_i x1), some (pv_i x2), none] [] LAYC σ
  unfold fX5_isBetter at h
  refine pr_iload_n dX5_isBetter_0 rfl ?_
  refine pr_aload_n dX5_isBetter_1 rfl ?_
  refine pr_getI dX5_isBetter_2 lk_X5_48 lc_81 rfl ?_
  refine pr_icmp_eq (tgt := 22) dX5_isBetter_5 rfl rfl (by decide) (fun c_1 => ?_) (fun c_1 => ?_)
  · have h := pm_pos c_1 h
    refine pr_iload_n dX5_isBetter_22 rfl ?_
    obtain ⟨q2, e3, h⟩ := pm_bs h
    refine pr_callS (av := [pv_i x2]) (S := []) dX5_isBetter_23 mk_X5_59 rfl rfl (by decide) (by decide) (by decide) (Or.inl rfl) (tmJ6_bitCount_0f7a4 e3) ?_
    refine pr_aload_n dX5_isBetter_26 rfl ?_
    refine pr_getI dX5_isBetter_27 lk_X5_45 lc_81 rfl ?_
    obtain ⟨q4, e5, h⟩ := pm_bs h
    refine pr_callS (av := [pv_i (σ 81 8)]) (S := [pv_i q2]) dX5_isBetter_30 mk_X5_59 rfl rfl (by decide) (by decide) (by decide) (Or.inl rfl) (tmJ6_bitCount_0f7a4 e5) ?_
    obtain ⟨q6, e7, h⟩ := pm_bs h
    refine pr_callS (av := [pv_i q2, pv_i q4]) (S := []) dX5_isBetter_33 mk_X5_65 rfl rfl (by decide) (by decide) (by decide) (Or.inl rfl) (tmJ6_compare_7cf53 e7) ?_
    refine pr_istore_n dX5_isBetter_36 (by decide) rfl ?_
    refine pr_iload_n dX5_isBetter_37 rfl ?_
    refine pr_if_eq (tgt := 53) dX5_isBetter_38 rfl (by decide) (fun c_8 => ?_) (fun c_8 => ?_)
    · have h := pm_pos c_8 h
      refine pr_iload_n dX5_isBetter_53 rfl ?_
      refine pr_aload_n dX5_isBetter_54 rfl ?_
      refine pr_getI dX5_isBetter_55 lk_X5_45 lc_81 rfl ?_
      refine pr_icmp_ge (tgt := 65) dX5_isBetter_58 rfl rfl (by decide) (fun c_9 => ?_) (fun c_9 => ?_)
      · have h := pm_pos c_9 h
        refine pr_iconst dX5_isBetter_65 ?_
        have h := Option.some.inj h
        subst h
        exact pr_zret dX5_isBetter_66 rfl (Or.inl rfl)
      · have h := pm_ng c_9 h
        refine pr_iconst dX5_isBetter_61 ?_
        refine pr_goto (tgt := 66) dX5_isBetter_62 (by decide) ?_
        have h := Option.some.inj h
        subst h
        exact pr_zret dX5_isBetter_66 rfl (Or.inr rfl)
    · have h := pm_ng c_8 h
      refine pr_iload_n dX5_isBetter_41 rfl ?_
      refine pr_if_ge (tgt := 49) dX5_isBetter_42 rfl (by decide) (fun c_10 => ?_) (fun c_10 => ?_)
      · have h := pm_pos c_10 h
        refine pr_iconst dX5_isBetter_49 ?_
        refine pr_goto (tgt := 66) dX5_isBetter_50 (by decide) ?_
        have h := Option.some.inj h
        subst h
        exact pr_zret dX5_isBetter_66 rfl (Or.inl rfl)
      · have h := pm_ng c_10 h
        refine pr_iconst dX5_isBetter_45 ?_
        refine pr_goto (tgt := 66) dX5_isBetter_46 (by decide) ?_
        have h := Option.some.inj h
        subst h
        exact pr_zret dX5_isBetter_66 rfl (Or.inr rfl)
  · have h := pm_ng c_1 h
    refine pr_iload_n dX5_isBetter_8 rfl ?_
    refine pr_aload_n dX5_isBetter_9 rfl ?_
    refine pr_getI dX5_isBetter_10 lk_X5_48 lc_81 rfl ?_
    refine pr_icmp_le (tgt := 20) dX5_isBetter_13 rfl rfl (by decide) (fun c_11 => ?_) (fun c_11 => ?_)
    · have h := pm_pos c_11 h
      refine pr_iconst dX5_isBetter_20 ?_
      have h := Option.some.inj h
      subst h
      exact pr_zret dX5_isBetter_21 rfl (Or.inl rfl)
    · have h := pm_ng c_11 h
      refine pr_iconst dX5_isBetter_16 ?_
      refine pr_goto (tgt := 21) dX5_isBetter_17 (by decide) ?_
      have h := Option.some.inj h
      subst h
      exact pr_zret dX5_isBetter_21 rfl (Or.inr rfl)
def bdX5_weigh_12 (y1 : Int) (y2 : Int) (y3 : Int) (y4 : Int) (σ : pm_M) (z5 : Int) (z6 : Int) (z7 : Int) (z8 : Int) : Option (((Int × Int × Int × Int) ⊕ (Int × Int × Int × Int)) ⊕ (Int × Int × Int × Int)) :=
  if (wr y2) ≤ (wr z8) then (some (.inl (.inr (z5, z6, z7, z8)))) else (if (wr (pm_and (pm_shr y1 z8) 1)) = 0 then (some (.inr (z5, z6, z7, (z8 + 1)))) else (pm_g (0 ≤ (wr z8) ∧ (wr z8) < 12) (pm_g (0 ≤ (wr (σ 88 (Int.toNat (wr z8)))) ∧ (wr (σ 88 (Int.toNat (wr z8)))) < 12) (pm_g (0 ≤ (wr (σ 88 (Int.toNat (wr z8)))) ∧ (wr (σ 88 (Int.toNat (wr z8)))) < 12) (if (wr ((z5 + (σ 84 (Int.toNat (wr (σ 88 (Int.toNat (wr z8))))))) * 480)) ≤ (wr ((((σ 85 (Int.toNat (wr (σ 88 (Int.toNat (wr z8)))))) + 1) - y4) * y3)) then (pm_g (0 ≤ (wr (σ 88 (Int.toNat (wr z8)))) ∧ (wr (σ 88 (Int.toNat (wr z8)))) < 12) (pm_g (0 ≤ (wr (σ 88 (Int.toNat (wr z8)))) ∧ (wr (σ 88 (Int.toNat (wr z8)))) < 12) (some (.inr ((z5 + (σ 84 (Int.toNat (wr (σ 88 (Int.toNat (wr z8))))))), (z6 + ((σ 86 (Int.toNat (wr (σ 88 (Int.toNat (wr z8)))))) * (σ 84 (Int.toNat (wr (σ 88 (Int.toNat (wr z8)))))))), (pm_or z7 (pm_shl 1 (σ 88 (Int.toNat (wr z8))))), (z8 + 1)))))) else (some (.inl (.inl ((z5 + (σ 84 (Int.toNat (wr (σ 88 (Int.toNat (wr z8))))))), z6, z7, z8)))))))))
set_option maxHeartbeats 4000000 in
set_option maxRecDepth 100000 in
theorem tbX5_weigh_12 {lay0 lay' : List pm_S} {r : Option pm_V} {σ' : pm_M} (y1 : Int) (y2 : Int) (y3 : Int) (y4 : Int) (σ : pm_M) : ∀ (a : Int × Int × Int × Int) (e : ((Int × Int × Int × Int) ⊕ (Int × Int × Int × Int)) ⊕ (Int × Int × Int × Int)), (fun a => bdX5_weigh_12 y1 y2 y3 y4 σ a.1 a.2.1 a.2.2.1 a.2.2.2) a = some e → (∀ a, e = .inr a → (fun a => pm_J mX5_weigh 2 44 lay0 r lay' σ' 12 [some (pv_r 81), some (pv_i y1), some (pv_i y2), some (pv_i y3), some (pv_i y4), some (pv_i a.1), some (pv_i a.2.1), some (pv_i a.2.2.1), some (pv_i a.2.2.2), none] [] LAYC σ) a) → (∀ a, e = .inl a → (fun a => match a with | .inl a => pm_J mX5_weigh 2 44 lay0 r lay' σ' 74 [none, none, none, none, none, none, none, none, none, none] [] LAYC σ | .inr a => pm_J mX5_weigh 2 44 lay0 r lay' σ' 110 [some (pv_r 81), none, none, none, none, none, some (pv_i a.2.1), some (pv_i a.2.2.1), none, none] [] LAYC σ) a) → (fun a => pm_J mX5_weigh 2 44 lay0 r lay' σ' 12 [some (pv_r 81), some (pv_i y1), some (pv_i y2), some (pv_i y3), some (pv_i y4), some (pv_i a.1), some (pv_i a.2.1), some (pv_i a.2.2.1), some (pv_i a.2.2.2), none] [] LAYC σ) a := by
  intro a e h hc hx
  obtain ⟨z5, z6, z7, z8⟩ := a
  have h : bdX5_weigh_12 y1 y2 y3 y4 σ z5 z6 z7 z8 = some e := h
  unfold bdX5_weigh_12 at h
  show pm_J mX5_weigh 2 44 lay0 r lay' σ' 12 [some (pv_r 81), some (pv_i y1), some (pv_i y2), some (pv_i y3), some (pv_i y4), some (pv_i z5), some (pv_i z6), some (pv_i z7), some (pv_i z8), none] [] LAYC σ
  refine pr_iload dX5_weigh_12 rfl ?_
  refine pr_iload_n dX5_weigh_14 rfl ?_
  refine pr_icmp_ge (tgt := 110) dX5_weigh_15 rfl rfl (by decide) (fun c_1 => ?_) (fun c_1 => ?_)
  · have h := pm_pos c_1 h
    refine pr_weak (L2 := [some (pv_r 81), none, none, none, none, none, some (pv_i z6), some (pv_i z7), none, none]) ⟨Or.inr rfl, Or.inl rfl, Or.inl rfl, Or.inl rfl, Or.inl rfl, Or.inl rfl, Or.inr rfl, Or.inr rfl, Or.inl rfl, Or.inl rfl, trivial⟩ ?_
    exact hx _ (Option.some.inj h).symm
  · have h := pm_ng c_1 h
    refine pr_iload_n dX5_weigh_18 rfl ?_
    refine pr_iload dX5_weigh_19 rfl ?_
    refine pr_ishr dX5_weigh_21 ?_
    refine pr_iconst dX5_weigh_22 ?_
    refine pr_iand dX5_weigh_23 ?_
    refine pr_if_ne (tgt := 30) dX5_weigh_24 rfl (by decide) (fun c_2 => ?_) (fun c_2 => ?_)
    · have h := pm_ng c_2 h
      refine pr_aload_n dX5_weigh_30 rfl ?_
      refine pr_getR dX5_weigh_31 lk_X5_30 lc_81 rfl ?_
      refine pr_iload dX5_weigh_34 rfl ?_
      obtain ⟨g_3, h⟩ := pm_gs h
      refine pr_iald dX5_weigh_36 lc_88 rfl g_3 ?_
      refine pr_istore dX5_weigh_37 (by decide) rfl ?_
      refine pr_iload dX5_weigh_39 rfl ?_
      refine pr_aload_n dX5_weigh_41 rfl ?_
      refine pr_getR dX5_weigh_42 lk_X5_18 lc_81 rfl ?_
      refine pr_iload dX5_weigh_45 rfl ?_
      obtain ⟨g_4, h⟩ := pm_gs h
      refine pr_iald dX5_weigh_47 lc_84 rfl g_4 ?_
      refine pr_iadd dX5_weigh_48 ?_
      refine pr_istore dX5_weigh_49 (by decide) rfl ?_
      refine pr_iload dX5_weigh_51 rfl ?_
      refine pr_sipush dX5_weigh_53 (by decide) ?_
      refine pr_imul dX5_weigh_56 ?_
      refine pr_aload_n dX5_weigh_57 rfl ?_
      refine pr_getR dX5_weigh_58 lk_X5_21 lc_81 rfl ?_
      refine pr_iload dX5_weigh_61 rfl ?_
      obtain ⟨g_5, h⟩ := pm_gs h
      refine pr_iald dX5_weigh_63 lc_85 rfl g_5 ?_
      refine pr_iconst dX5_weigh_64 ?_
      refine pr_iadd dX5_weigh_65 ?_
      refine pr_iload dX5_weigh_66 rfl ?_
      refine pr_isub dX5_weigh_68 ?_
      refine pr_iload_n dX5_weigh_69 rfl ?_
      refine pr_imul dX5_weigh_70 ?_
      refine pr_icmp_le (tgt := 75) dX5_weigh_71 rfl rfl (by decide) (fun c_6 => ?_) (fun c_6 => ?_)
      · have h := pm_pos c_6 h
        refine pr_iload dX5_weigh_75 rfl ?_
        refine pr_aload_n dX5_weigh_77 rfl ?_
        refine pr_getR dX5_weigh_78 lk_X5_24 lc_81 rfl ?_
        refine pr_iload dX5_weigh_81 rfl ?_
        obtain ⟨g_7, h⟩ := pm_gs h
        refine pr_iald dX5_weigh_83 lc_86 rfl g_7 ?_
        refine pr_aload_n dX5_weigh_84 rfl ?_
        refine pr_getR dX5_weigh_85 lk_X5_18 lc_81 rfl ?_
        refine pr_iload dX5_weigh_88 rfl ?_
        obtain ⟨g_8, h⟩ := pm_gs h
        refine pr_iald dX5_weigh_90 lc_84 rfl g_8 ?_
        refine pr_imul dX5_weigh_91 ?_
        refine pr_iadd dX5_weigh_92 ?_
        refine pr_istore dX5_weigh_93 (by decide) rfl ?_
        refine pr_iload dX5_weigh_95 rfl ?_
        refine pr_iconst dX5_weigh_97 ?_
        refine pr_iload dX5_weigh_98 rfl ?_
        refine pr_ishl dX5_weigh_100 ?_
        refine pr_ior dX5_weigh_101 ?_
        refine pr_istore dX5_weigh_102 (by decide) rfl ?_
        refine pr_iinc dX5_weigh_104 rfl (by decide) rfl ?_
        refine pr_goto (tgt := 12) dX5_weigh_107 (by decide) ?_
        refine pr_weak (L2 := [some (pv_r 81), some (pv_i y1), some (pv_i y2), some (pv_i y3), some (pv_i y4), some (pv_i (z5 + (σ 84 (Int.toNat (wr (σ 88 (Int.toNat (wr z8)))))))), some (pv_i (z6 + ((σ 86 (Int.toNat (wr (σ 88 (Int.toNat (wr z8)))))) * (σ 84 (Int.toNat (wr (σ 88 (Int.toNat (wr z8))))))))), some (pv_i (pm_or z7 (pm_shl 1 (σ 88 (Int.toNat (wr z8)))))), some (pv_i (z8 + 1)), none]) ⟨Or.inr rfl, Or.inr rfl, Or.inr rfl, Or.inr rfl, Or.inr rfl, Or.inr rfl, Or.inr rfl, Or.inr rfl, Or.inr rfl, Or.inl rfl, trivial⟩ ?_
        exact hc _ (Option.some.inj h).symm
      · have h := pm_ng c_6 h
        refine pr_weak (L2 := [none, none, none, none, none, none, none, none, none, none]) ⟨Or.inl rfl, Or.inl rfl, Or.inl rfl, Or.inl rfl, Or.inl rfl, Or.inl rfl, Or.inl rfl, Or.inl rfl, Or.inl rfl, Or.inl rfl, trivial⟩ ?_
        exact hx _ (Option.some.inj h).symm
    · have h := pm_pos c_2 h
      refine pr_goto (tgt := 104) dX5_weigh_27 (by decide) ?_
      refine pr_iinc dX5_weigh_104 rfl (by decide) rfl ?_
      refine pr_goto (tgt := 12) dX5_weigh_107 (by decide) ?_
      refine pr_weak (L2 := [some (pv_r 81), some (pv_i y1), some (pv_i y2), some (pv_i y3), some (pv_i y4), some (pv_i z5), some (pv_i z6), some (pv_i z7), some (pv_i (z8 + 1)), none]) ⟨Or.inr rfl, Or.inr rfl, Or.inr rfl, Or.inr rfl, Or.inr rfl, Or.inr rfl, Or.inr rfl, Or.inr rfl, Or.inr rfl, Or.inl rfl, trivial⟩ ?_
      exact hc _ (Option.some.inj h).symm
def fX5_weigh (x1 : Int) (x2 : Int) (x3 : Int) (x4 : Int) (σ : pm_M) : Option (pm_M) :=
  (pm_it (fun a => bdX5_weigh_12 x1 x2 x3 x4 σ a.1 a.2.1 a.2.2.1 a.2.2.2) pm_fuel (0, 0, 0, 0)).bind fun v9 => match v9 with | .inl v9 => (some σ) | .inr v9 => ((fX5_isBetter v9.2.1 v9.2.2.1 σ).bind fun q11 => if (wr q11) = 0 then (some σ) else (some (pm_up (pm_up σ 81 9 v9.2.1) 81 8 v9.2.2.1)))
set_option maxHeartbeats 4000000 in
set_option maxRecDepth 100000 in
theorem tmX5_weigh {x1 : Int} {x2 : Int} {x3 : Int} {x4 : Int} {σ : pm_M} {ρ : pm_M} (h : fX5_weigh x1 x2 x3 x4 σ = some ρ) : pm_C mX5_weigh 2 44 [pv_r 81, pv_i x1, pv_i x2, pv_i x3, pv_i x4] LAYC σ none LAYC ρ := by
  refine pm_C.of rfl rfl (by decide) ?_
  show pm_J mX5_weigh 2 44 LAYC none LAYC ρ 0 [some (pv_r 81), some (pv_i x1), some (pv_i x2), some (pv_i x3), some (pv_i x4), none, none, none, none, none] [] LAYC σ
  unfold fX5_weigh at h
  refine pr_iconst dX5_weigh_0 ?_
  refine pr_istore dX5_weigh_1 (by decide) rfl ?_
  refine pr_iconst dX5_weigh_3 ?_
  refine pr_istore dX5_weigh_4 (by decide) rfl ?_
  refine pr_iconst dX5_weigh_6 ?_
  refine pr_istore dX5_weigh_7 (by decide) rfl ?_
  refine pr_iconst dX5_weigh_9 ?_
  refine pr_istore dX5_weigh_10 (by decide) rfl ?_
  obtain ⟨v9, e10, h⟩ := pm_bs h
  refine pr_weak (L2 := [some (pv_r 81), some (pv_i x1), some (pv_i x2), some (pv_i x3), some (pv_i x4), some (pv_i 0), some (pv_i 0), some (pv_i 0), some (pv_i 0), none]) ⟨Or.inr rfl, Or.inr rfl, Or.inr rfl, Or.inr rfl, Or.inr rfl, Or.inr rfl, Or.inr rfl, Or.inr rfl, Or.inr rfl, Or.inl rfl, trivial⟩ ?_
  refine pm_it_J (P := fun a => pm_J mX5_weigh 2 44 LAYC none LAYC ρ 12 [some (pv_r 81), some (pv_i x1), some (pv_i x2), some (pv_i x3), some (pv_i x4), some (pv_i a.1), some (pv_i a.2.1), some (pv_i a.2.2.1), some (pv_i a.2.2.2), none] [] LAYC σ) (Rx := fun a => match a with | .inl a => pm_J mX5_weigh 2 44 LAYC none LAYC ρ 74 [none, none, none, none, none, none, none, none, none, none] [] LAYC σ | .inr a => pm_J mX5_weigh 2 44 LAYC none LAYC ρ 110 [some (pv_r 81), none, none, none, none, none, some (pv_i a.2.1), some (pv_i a.2.2.1), none, none] [] LAYC σ) (tbX5_weigh_12 x1 x2 x3 x4 σ) _ _ _ e10 ?_
  cases v9 with
  | inl v9 =>
    show pm_J mX5_weigh 2 44 LAYC none LAYC ρ 74 [none, none, none, none, none, none, none, none, none, none] [] LAYC σ
    have h := Option.some.inj h
    subst h
    exact pr_vret dX5_weigh_74 rfl
  | inr v9 =>
    show pm_J mX5_weigh 2 44 LAYC none LAYC ρ 110 [some (pv_r 81), none, none, none, none, none, some (pv_i v9.2.1), some (pv_i v9.2.2.1), none, none] [] LAYC σ
    refine pr_aload_n dX5_weigh_110 rfl ?_
    refine pr_iload dX5_weigh_111 rfl ?_
    refine pr_iload dX5_weigh_113 rfl ?_
    obtain ⟨q11, e12, h⟩ := pm_bs h
    refine pr_callV (As := [pv_i v9.2.1, pv_i v9.2.2.1]) (S := []) (t := 81) dX5_weigh_115 mk_X5_55 lc_81 (ci := 5) (q := (RX5, TX5, 10)) rfl rfl rfl rfl (by decide) (by decide) (by decide) (Or.inl rfl) (tmX5_isBetter e12) ?_
    refine pr_if_eq (tgt := 133) dX5_weigh_118 rfl (by decide) (fun c_13 => ?_) (fun c_13 => ?_)
    · have h := pm_pos c_13 h
      have h := Option.some.inj h
      subst h
      exact pr_vret dX5_weigh_133 rfl
    · have h := pm_ng c_13 h
      refine pr_aload_n dX5_weigh_121 rfl ?_
      refine pr_iload dX5_weigh_122 rfl ?_
      refine pr_putI dX5_weigh_124 lp_X5_48 lc_81 rfl ?_
      refine pr_aload_n dX5_weigh_127 rfl ?_
      refine pr_iload dX5_weigh_128 rfl ?_
      refine pr_putI dX5_weigh_130 lp_X5_45 lc_81 rfl ?_
      have h := Option.some.inj h
      subst h
      exact pr_vret dX5_weigh_133 rfl
def bdX5_plan_18 (y1 : Int) (y2 : Int) (y3 : Int) (z4 : Int) (σ : pm_M) : Option ((Int × pm_M) ⊕ (Int × pm_M)) :=
  if (wr (pm_shl 1 y3)) ≤ (wr z4) then (some (.inl (z4, σ))) else ((fX5_weigh z4 y3 y1 y2 σ).bind fun q4 => some (.inr ((z4 + 1), q4)))
set_option maxHeartbeats 4000000 in
set_option maxRecDepth 100000 in
theorem tbX5_plan_18 {lay0 lay' : List pm_S} {r : Option pm_V} {σ' : pm_M} (y1 : Int) (y2 : Int) (y3 : Int) : ∀ (a : Int × pm_M) (e : (Int × pm_M) ⊕ (Int × pm_M)), (fun a => bdX5_plan_18 y1 y2 y3 a.1 a.2) a = some e → (∀ a, e = .inr a → (fun a => pm_J mX5_plan 3 73 lay0 r lay' σ' 18 [some (pv_r 81), some (pv_i y1), some (pv_i y2), some (pv_i y3), some (pv_i a.1)] [] LAYC a.2) a) → (∀ a, e = .inl a → (fun a => pm_J mX5_plan 3 73 lay0 r lay' σ' 41 [none, none, none, none, none] [] LAYC a.2) a) → (fun a => pm_J mX5_plan 3 73 lay0 r lay' σ' 18 [some (pv_r 81), some (pv_i y1), some (pv_i y2), some (pv_i y3), some (pv_i a.1)] [] LAYC a.2) a := by
  intro a e h hc hx
  obtain ⟨z4, σ⟩ := a
  have h : bdX5_plan_18 y1 y2 y3 z4 σ = some e := h
  unfold bdX5_plan_18 at h
  show pm_J mX5_plan 3 73 lay0 r lay' σ' 18 [some (pv_r 81), some (pv_i y1), some (pv_i y2), some (pv_i y3), some (pv_i z4)] [] LAYC σ
  refine pr_iload dX5_plan_18 rfl ?_
  refine pr_iconst dX5_plan_20 ?_
  refine pr_iload_n dX5_plan_21 rfl ?_
  refine pr_ishl dX5_plan_22 ?_
  refine pr_icmp_ge (tgt := 41) dX5_plan_23 rfl rfl (by decide) (fun c_3 => ?_) (fun c_3 => ?_)
  · have h := pm_pos c_3 h
    refine pr_weak (L2 := [none, none, none, none, none]) ⟨Or.inl rfl, Or.inl rfl, Or.inl rfl, Or.inl rfl, Or.inl rfl, trivial⟩ ?_
    exact hx _ (Option.some.inj h).symm
  · have h := pm_ng c_3 h
    refine pr_aload_n dX5_plan_26 rfl ?_
    refine pr_iload dX5_plan_27 rfl ?_
    refine pr_iload_n dX5_plan_29 rfl ?_
    refine pr_iload_n dX5_plan_30 rfl ?_
    refine pr_iload_n dX5_plan_31 rfl ?_
    obtain ⟨q4, e5, h⟩ := pm_bs h
    refine pr_callV (As := [pv_i z4, pv_i y3, pv_i y1, pv_i y2]) (S := []) (t := 81) dX5_plan_32 mk_X5_51 lc_81 (ci := 5) (q := (RX5, TX5, 10)) rfl rfl rfl rfl (by decide) (by decide) (by decide) (Or.inl rfl) (tmX5_weigh e5) ?_
    refine pr_iinc dX5_plan_35 rfl (by decide) rfl ?_
    refine pr_goto (tgt := 18) dX5_plan_38 (by decide) ?_
    refine pr_weak (L2 := [some (pv_r 81), some (pv_i y1), some (pv_i y2), some (pv_i y3), some (pv_i (z4 + 1))]) ⟨Or.inr rfl, Or.inr rfl, Or.inr rfl, Or.inr rfl, Or.inr rfl, trivial⟩ ?_
    exact hc _ (Option.some.inj h).symm
def fX5_plan (x1 : Int) (x2 : Int) (σ : pm_M) : Option (pm_M) :=
  (fX5_sortByDue σ).bind fun q1 => (pm_it (fun a => bdX5_plan_18 x1 x2 q1.1 a.1 a.2) pm_fuel (1, (pm_up (pm_up q1.2 81 8 0) 81 9 0))).bind fun v6 => some v6.2
set_option maxHeartbeats 4000000 in
set_option maxRecDepth 100000 in
theorem tmX5_plan {x1 : Int} {x2 : Int} {σ : pm_M} {ρ : pm_M} (h : fX5_plan x1 x2 σ = some ρ) : pm_C mX5_plan 3 73 [pv_r 81, pv_i x1, pv_i x2] LAYC σ none LAYC ρ := by
  refine pm_C.of rfl rfl (by decide) ?_
  show pm_J mX5_plan 3 73 LAYC none LAYC ρ 0 [some (pv_r 81), some (pv_i x1), some (pv_i x2), none, none] [] LAYC σ
  unfold fX5_plan at h
  refine pr_aload_n dX5_plan_0 rfl ?_
  obtain ⟨q1, e2, h⟩ := pm_bs h
  refine pr_callV (As := []) (S := []) (t := 81) dX5_plan_1 mk_X5_41 lc_81 (ci := 5) (q := (RX5, TX5, 10)) rfl rfl rfl rfl (by decide) (by decide) (by decide) (Or.inl rfl) (tmX5_sortByDue e2) ?_
  refine pr_istore_n dX5_plan_4 (by decide) rfl ?_
  refine pr_aload_n dX5_plan_5 rfl ?_
  refine pr_iconst dX5_plan_6 ?_
  refine pr_putI dX5_plan_7 lp_X5_45 lc_81 rfl ?_
  refine pr_aload_n dX5_plan_10 rfl ?_
  refine pr_iconst dX5_plan_11 ?_
  refine pr_putI dX5_plan_12 lp_X5_48 lc_81 rfl ?_
  refine pr_iconst dX5_plan_15 ?_
  refine pr_istore dX5_plan_16 (by decide) rfl ?_
  obtain ⟨v6, e7, h⟩ := pm_bs h
  refine pr_weak (L2 := [some (pv_r 81), some (pv_i x1), some (pv_i x2), some (pv_i q1.1), some (pv_i 1)]) ⟨Or.inr rfl, Or.inr rfl, Or.inr rfl, Or.inr rfl, Or.inr rfl, trivial⟩ ?_
  refine pm_it_J (P := fun a => pm_J mX5_plan 3 73 LAYC none LAYC ρ 18 [some (pv_r 81), some (pv_i x1), some (pv_i x2), some (pv_i q1.1), some (pv_i a.1)] [] LAYC a.2) (Rx := fun a => pm_J mX5_plan 3 73 LAYC none LAYC ρ 41 [none, none, none, none, none] [] LAYC a.2) (tbX5_plan_18 x1 x2 q1.1) _ _ _ e7 ?_
  show pm_J mX5_plan 3 73 LAYC none LAYC ρ 41 [none, none, none, none, none] [] LAYC v6.2
  have h := Option.some.inj h
  subst h
  exact pr_vret dX5_plan_41 rfl
