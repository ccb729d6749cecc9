/-! written ints as places -/
theorem cl_0 : Int32.toNatClampNeg 0 = 0 := by decide +kernel
theorem vi_0 (n : Nat) : vp_in 0 n = (0 < n) := by
  unfold vp_in
  rw [cl_0]
  exact propext ⟨fun h => Nat.not_le.mp fun q => h (Or.inr q), fun h q => q.elim (fun z => absurd z (by decide +kernel)) (fun z => absurd h (Nat.not_lt.mpr z))⟩
theorem cl_1 : Int32.toNatClampNeg 1 = 1 := by decide +kernel
theorem vi_1 (n : Nat) : vp_in 1 n = (1 < n) := by
  unfold vp_in
  rw [cl_1]
  exact propext ⟨fun h => Nat.not_le.mp fun q => h (Or.inr q), fun h q => q.elim (fun z => absurd z (by decide +kernel)) (fun z => absurd h (Nat.not_lt.mpr z))⟩
theorem cl_2 : Int32.toNatClampNeg 2 = 2 := by decide +kernel
theorem vi_2 (n : Nat) : vp_in 2 n = (2 < n) := by
  unfold vp_in
  rw [cl_2]
  exact propext ⟨fun h => Nat.not_le.mp fun q => h (Or.inr q), fun h q => q.elim (fun z => absurd z (by decide +kernel)) (fun z => absurd h (Nat.not_lt.mpr z))⟩
theorem cl_3 : Int32.toNatClampNeg 3 = 3 := by decide +kernel
theorem vi_3 (n : Nat) : vp_in 3 n = (3 < n) := by
  unfold vp_in
  rw [cl_3]
  exact propext ⟨fun h => Nat.not_le.mp fun q => h (Or.inr q), fun h q => q.elim (fun z => absurd z (by decide +kernel)) (fun z => absurd h (Nat.not_lt.mpr z))⟩
theorem cl_4 : Int32.toNatClampNeg 4 = 4 := by decide +kernel
theorem vi_4 (n : Nat) : vp_in 4 n = (4 < n) := by
  unfold vp_in
  rw [cl_4]
  exact propext ⟨fun h => Nat.not_le.mp fun q => h (Or.inr q), fun h q => q.elim (fun z => absurd z (by decide +kernel)) (fun z => absurd h (Nat.not_lt.mpr z))⟩
theorem cl_5 : Int32.toNatClampNeg 5 = 5 := by decide +kernel
theorem vi_5 (n : Nat) : vp_in 5 n = (5 < n) := by
  unfold vp_in
  rw [cl_5]
  exact propext ⟨fun h => Nat.not_le.mp fun q => h (Or.inr q), fun h q => q.elim (fun z => absurd z (by decide +kernel)) (fun z => absurd h (Nat.not_lt.mpr z))⟩
theorem cl_6 : Int32.toNatClampNeg 6 = 6 := by decide +kernel
theorem vi_6 (n : Nat) : vp_in 6 n = (6 < n) := by
  unfold vp_in
  rw [cl_6]
  exact propext ⟨fun h => Nat.not_le.mp fun q => h (Or.inr q), fun h q => q.elim (fun z => absurd z (by decide +kernel)) (fun z => absurd h (Nat.not_lt.mpr z))⟩
theorem cl_7 : Int32.toNatClampNeg 7 = 7 := by decide +kernel
theorem vi_7 (n : Nat) : vp_in 7 n = (7 < n) := by
  unfold vp_in
  rw [cl_7]
  exact propext ⟨fun h => Nat.not_le.mp fun q => h (Or.inr q), fun h q => q.elim (fun z => absurd z (by decide +kernel)) (fun z => absurd h (Nat.not_lt.mpr z))⟩
theorem cl_8 : Int32.toNatClampNeg 8 = 8 := by decide +kernel
theorem vi_8 (n : Nat) : vp_in 8 n = (8 < n) := by
  unfold vp_in
  rw [cl_8]
  exact propext ⟨fun h => Nat.not_le.mp fun q => h (Or.inr q), fun h q => q.elim (fun z => absurd z (by decide +kernel)) (fun z => absurd h (Nat.not_lt.mpr z))⟩
theorem cl_9 : Int32.toNatClampNeg 9 = 9 := by decide +kernel
theorem vi_9 (n : Nat) : vp_in 9 n = (9 < n) := by
  unfold vp_in
  rw [cl_9]
  exact propext ⟨fun h => Nat.not_le.mp fun q => h (Or.inr q), fun h q => q.elim (fun z => absurd z (by decide +kernel)) (fun z => absurd h (Nat.not_lt.mpr z))⟩
theorem cl_10 : Int32.toNatClampNeg 10 = 10 := by decide +kernel
theorem vi_10 (n : Nat) : vp_in 10 n = (10 < n) := by
  unfold vp_in
  rw [cl_10]
  exact propext ⟨fun h => Nat.not_le.mp fun q => h (Or.inr q), fun h q => q.elim (fun z => absurd z (by decide +kernel)) (fun z => absurd h (Nat.not_lt.mpr z))⟩
theorem cl_11 : Int32.toNatClampNeg 11 = 11 := by decide +kernel
theorem vi_11 (n : Nat) : vp_in 11 n = (11 < n) := by
  unfold vp_in
  rw [cl_11]
  exact propext ⟨fun h => Nat.not_le.mp fun q => h (Or.inr q), fun h q => q.elim (fun z => absurd z (by decide +kernel)) (fun z => absurd h (Nat.not_lt.mpr z))⟩
theorem cl_12 : Int32.toNatClampNeg 12 = 12 := by decide +kernel
theorem vi_12 (n : Nat) : vp_in 12 n = (12 < n) := by
  unfold vp_in
  rw [cl_12]
  exact propext ⟨fun h => Nat.not_le.mp fun q => h (Or.inr q), fun h q => q.elim (fun z => absurd z (by decide +kernel)) (fun z => absurd h (Nat.not_lt.mpr z))⟩
theorem cl_13 : Int32.toNatClampNeg 13 = 13 := by decide +kernel
theorem vi_13 (n : Nat) : vp_in 13 n = (13 < n) := by
  unfold vp_in
  rw [cl_13]
  exact propext ⟨fun h => Nat.not_le.mp fun q => h (Or.inr q), fun h q => q.elim (fun z => absurd z (by decide +kernel)) (fun z => absurd h (Nat.not_lt.mpr z))⟩
theorem cl_14 : Int32.toNatClampNeg 14 = 14 := by decide +kernel
theorem vi_14 (n : Nat) : vp_in 14 n = (14 < n) := by
  unfold vp_in
  rw [cl_14]
  exact propext ⟨fun h => Nat.not_le.mp fun q => h (Or.inr q), fun h q => q.elim (fun z => absurd z (by decide +kernel)) (fun z => absurd h (Nat.not_lt.mpr z))⟩
theorem cl_15 : Int32.toNatClampNeg 15 = 15 := by decide +kernel
theorem vi_15 (n : Nat) : vp_in 15 n = (15 < n) := by
  unfold vp_in
  rw [cl_15]
  exact propext ⟨fun h => Nat.not_le.mp fun q => h (Or.inr q), fun h q => q.elim (fun z => absurd z (by decide +kernel)) (fun z => absurd h (Nat.not_lt.mpr z))⟩
theorem cl_16 : Int32.toNatClampNeg 16 = 16 := by decide +kernel
theorem vi_16 (n : Nat) : vp_in 16 n = (16 < n) := by
  unfold vp_in
  rw [cl_16]
  exact propext ⟨fun h => Nat.not_le.mp fun q => h (Or.inr q), fun h q => q.elim (fun z => absurd z (by decide +kernel)) (fun z => absurd h (Nat.not_lt.mpr z))⟩
theorem cl_17 : Int32.toNatClampNeg 17 = 17 := by decide +kernel
theorem vi_17 (n : Nat) : vp_in 17 n = (17 < n) := by
  unfold vp_in
  rw [cl_17]
  exact propext ⟨fun h => Nat.not_le.mp fun q => h (Or.inr q), fun h q => q.elim (fun z => absurd z (by decide +kernel)) (fun z => absurd h (Nat.not_lt.mpr z))⟩
theorem cl_18 : Int32.toNatClampNeg 18 = 18 := by decide +kernel
theorem vi_18 (n : Nat) : vp_in 18 n = (18 < n) := by
  unfold vp_in
  rw [cl_18]
  exact propext ⟨fun h => Nat.not_le.mp fun q => h (Or.inr q), fun h q => q.elim (fun z => absurd z (by decide +kernel)) (fun z => absurd h (Nat.not_lt.mpr z))⟩
theorem cl_19 : Int32.toNatClampNeg 19 = 19 := by decide +kernel
theorem vi_19 (n : Nat) : vp_in 19 n = (19 < n) := by
  unfold vp_in
  rw [cl_19]
  exact propext ⟨fun h => Nat.not_le.mp fun q => h (Or.inr q), fun h q => q.elim (fun z => absurd z (by decide +kernel)) (fun z => absurd h (Nat.not_lt.mpr z))⟩
theorem cl_20 : Int32.toNatClampNeg 20 = 20 := by decide +kernel
theorem vi_20 (n : Nat) : vp_in 20 n = (20 < n) := by
  unfold vp_in
  rw [cl_20]
  exact propext ⟨fun h => Nat.not_le.mp fun q => h (Or.inr q), fun h q => q.elim (fun z => absurd z (by decide +kernel)) (fun z => absurd h (Nat.not_lt.mpr z))⟩
theorem cl_21 : Int32.toNatClampNeg 21 = 21 := by decide +kernel
theorem vi_21 (n : Nat) : vp_in 21 n = (21 < n) := by
  unfold vp_in
  rw [cl_21]
  exact propext ⟨fun h => Nat.not_le.mp fun q => h (Or.inr q), fun h q => q.elim (fun z => absurd z (by decide +kernel)) (fun z => absurd h (Nat.not_lt.mpr z))⟩
theorem cl_22 : Int32.toNatClampNeg 22 = 22 := by decide +kernel
theorem vi_22 (n : Nat) : vp_in 22 n = (22 < n) := by
  unfold vp_in
  rw [cl_22]
  exact propext ⟨fun h => Nat.not_le.mp fun q => h (Or.inr q), fun h q => q.elim (fun z => absurd z (by decide +kernel)) (fun z => absurd h (Nat.not_lt.mpr z))⟩
theorem cl_23 : Int32.toNatClampNeg 23 = 23 := by decide +kernel
theorem vi_23 (n : Nat) : vp_in 23 n = (23 < n) := by
  unfold vp_in
  rw [cl_23]
  exact propext ⟨fun h => Nat.not_le.mp fun q => h (Or.inr q), fun h q => q.elim (fun z => absurd z (by decide +kernel)) (fun z => absurd h (Nat.not_lt.mpr z))⟩
theorem cl_24 : Int32.toNatClampNeg 24 = 24 := by decide +kernel
theorem vi_24 (n : Nat) : vp_in 24 n = (24 < n) := by
  unfold vp_in
  rw [cl_24]
  exact propext ⟨fun h => Nat.not_le.mp fun q => h (Or.inr q), fun h q => q.elim (fun z => absurd z (by decide +kernel)) (fun z => absurd h (Nat.not_lt.mpr z))⟩
theorem cl_25 : Int32.toNatClampNeg 25 = 25 := by decide +kernel
theorem vi_25 (n : Nat) : vp_in 25 n = (25 < n) := by
  unfold vp_in
  rw [cl_25]
  exact propext ⟨fun h => Nat.not_le.mp fun q => h (Or.inr q), fun h q => q.elim (fun z => absurd z (by decide +kernel)) (fun z => absurd h (Nat.not_lt.mpr z))⟩
theorem cl_26 : Int32.toNatClampNeg 26 = 26 := by decide +kernel
theorem vi_26 (n : Nat) : vp_in 26 n = (26 < n) := by
  unfold vp_in
  rw [cl_26]
  exact propext ⟨fun h => Nat.not_le.mp fun q => h (Or.inr q), fun h q => q.elim (fun z => absurd z (by decide +kernel)) (fun z => absurd h (Nat.not_lt.mpr z))⟩
theorem cl_27 : Int32.toNatClampNeg 27 = 27 := by decide +kernel
theorem vi_27 (n : Nat) : vp_in 27 n = (27 < n) := by
  unfold vp_in
  rw [cl_27]
  exact propext ⟨fun h => Nat.not_le.mp fun q => h (Or.inr q), fun h q => q.elim (fun z => absurd z (by decide +kernel)) (fun z => absurd h (Nat.not_lt.mpr z))⟩
theorem cl_28 : Int32.toNatClampNeg 28 = 28 := by decide +kernel
theorem vi_28 (n : Nat) : vp_in 28 n = (28 < n) := by
  unfold vp_in
  rw [cl_28]
  exact propext ⟨fun h => Nat.not_le.mp fun q => h (Or.inr q), fun h q => q.elim (fun z => absurd z (by decide +kernel)) (fun z => absurd h (Nat.not_lt.mpr z))⟩
theorem cl_29 : Int32.toNatClampNeg 29 = 29 := by decide +kernel
theorem vi_29 (n : Nat) : vp_in 29 n = (29 < n) := by
  unfold vp_in
  rw [cl_29]
  exact propext ⟨fun h => Nat.not_le.mp fun q => h (Or.inr q), fun h q => q.elim (fun z => absurd z (by decide +kernel)) (fun z => absurd h (Nat.not_lt.mpr z))⟩
theorem cl_30 : Int32.toNatClampNeg 30 = 30 := by decide +kernel
theorem vi_30 (n : Nat) : vp_in 30 n = (30 < n) := by
  unfold vp_in
  rw [cl_30]
  exact propext ⟨fun h => Nat.not_le.mp fun q => h (Or.inr q), fun h q => q.elim (fun z => absurd z (by decide +kernel)) (fun z => absurd h (Nat.not_lt.mpr z))⟩
theorem cl_31 : Int32.toNatClampNeg 31 = 31 := by decide +kernel
theorem vi_31 (n : Nat) : vp_in 31 n = (31 < n) := by
  unfold vp_in
  rw [cl_31]
  exact propext ⟨fun h => Nat.not_le.mp fun q => h (Or.inr q), fun h q => q.elim (fun z => absurd z (by decide +kernel)) (fun z => absurd h (Nat.not_lt.mpr z))⟩
theorem cl_32 : Int32.toNatClampNeg 32 = 32 := by decide +kernel
theorem vi_32 (n : Nat) : vp_in 32 n = (32 < n) := by
  unfold vp_in
  rw [cl_32]
  exact propext ⟨fun h => Nat.not_le.mp fun q => h (Or.inr q), fun h q => q.elim (fun z => absurd z (by decide +kernel)) (fun z => absurd h (Nat.not_lt.mpr z))⟩
theorem cl_33 : Int32.toNatClampNeg 33 = 33 := by decide +kernel
theorem vi_33 (n : Nat) : vp_in 33 n = (33 < n) := by
  unfold vp_in
  rw [cl_33]
  exact propext ⟨fun h => Nat.not_le.mp fun q => h (Or.inr q), fun h q => q.elim (fun z => absurd z (by decide +kernel)) (fun z => absurd h (Nat.not_lt.mpr z))⟩
theorem cl_34 : Int32.toNatClampNeg 34 = 34 := by decide +kernel
theorem vi_34 (n : Nat) : vp_in 34 n = (34 < n) := by
  unfold vp_in
  rw [cl_34]
  exact propext ⟨fun h => Nat.not_le.mp fun q => h (Or.inr q), fun h q => q.elim (fun z => absurd z (by decide +kernel)) (fun z => absurd h (Nat.not_lt.mpr z))⟩
theorem cl_35 : Int32.toNatClampNeg 35 = 35 := by decide +kernel
theorem vi_35 (n : Nat) : vp_in 35 n = (35 < n) := by
  unfold vp_in
  rw [cl_35]
  exact propext ⟨fun h => Nat.not_le.mp fun q => h (Or.inr q), fun h q => q.elim (fun z => absurd z (by decide +kernel)) (fun z => absurd h (Nat.not_lt.mpr z))⟩
theorem cl_36 : Int32.toNatClampNeg 36 = 36 := by decide +kernel
theorem vi_36 (n : Nat) : vp_in 36 n = (36 < n) := by
  unfold vp_in
  rw [cl_36]
  exact propext ⟨fun h => Nat.not_le.mp fun q => h (Or.inr q), fun h q => q.elim (fun z => absurd z (by decide +kernel)) (fun z => absurd h (Nat.not_lt.mpr z))⟩
theorem cl_37 : Int32.toNatClampNeg 37 = 37 := by decide +kernel
theorem vi_37 (n : Nat) : vp_in 37 n = (37 < n) := by
  unfold vp_in
  rw [cl_37]
  exact propext ⟨fun h => Nat.not_le.mp fun q => h (Or.inr q), fun h q => q.elim (fun z => absurd z (by decide +kernel)) (fun z => absurd h (Nat.not_lt.mpr z))⟩
theorem cl_38 : Int32.toNatClampNeg 38 = 38 := by decide +kernel
theorem vi_38 (n : Nat) : vp_in 38 n = (38 < n) := by
  unfold vp_in
  rw [cl_38]
  exact propext ⟨fun h => Nat.not_le.mp fun q => h (Or.inr q), fun h q => q.elim (fun z => absurd z (by decide +kernel)) (fun z => absurd h (Nat.not_lt.mpr z))⟩
theorem cl_39 : Int32.toNatClampNeg 39 = 39 := by decide +kernel
theorem vi_39 (n : Nat) : vp_in 39 n = (39 < n) := by
  unfold vp_in
  rw [cl_39]
  exact propext ⟨fun h => Nat.not_le.mp fun q => h (Or.inr q), fun h q => q.elim (fun z => absurd z (by decide +kernel)) (fun z => absurd h (Nat.not_lt.mpr z))⟩
theorem cl_40 : Int32.toNatClampNeg 40 = 40 := by decide +kernel
theorem vi_40 (n : Nat) : vp_in 40 n = (40 < n) := by
  unfold vp_in
  rw [cl_40]
  exact propext ⟨fun h => Nat.not_le.mp fun q => h (Or.inr q), fun h q => q.elim (fun z => absurd z (by decide +kernel)) (fun z => absurd h (Nat.not_lt.mpr z))⟩
theorem cl_41 : Int32.toNatClampNeg 41 = 41 := by decide +kernel
theorem vi_41 (n : Nat) : vp_in 41 n = (41 < n) := by
  unfold vp_in
  rw [cl_41]
  exact propext ⟨fun h => Nat.not_le.mp fun q => h (Or.inr q), fun h q => q.elim (fun z => absurd z (by decide +kernel)) (fun z => absurd h (Nat.not_lt.mpr z))⟩
theorem cl_42 : Int32.toNatClampNeg 42 = 42 := by decide +kernel
theorem vi_42 (n : Nat) : vp_in 42 n = (42 < n) := by
  unfold vp_in
  rw [cl_42]
  exact propext ⟨fun h => Nat.not_le.mp fun q => h (Or.inr q), fun h q => q.elim (fun z => absurd z (by decide +kernel)) (fun z => absurd h (Nat.not_lt.mpr z))⟩
theorem cl_43 : Int32.toNatClampNeg 43 = 43 := by decide +kernel
theorem vi_43 (n : Nat) : vp_in 43 n = (43 < n) := by
  unfold vp_in
  rw [cl_43]
  exact propext ⟨fun h => Nat.not_le.mp fun q => h (Or.inr q), fun h q => q.elim (fun z => absurd z (by decide +kernel)) (fun z => absurd h (Nat.not_lt.mpr z))⟩
theorem cl_44 : Int32.toNatClampNeg 44 = 44 := by decide +kernel
theorem vi_44 (n : Nat) : vp_in 44 n = (44 < n) := by
  unfold vp_in
  rw [cl_44]
  exact propext ⟨fun h => Nat.not_le.mp fun q => h (Or.inr q), fun h q => q.elim (fun z => absurd z (by decide +kernel)) (fun z => absurd h (Nat.not_lt.mpr z))⟩
theorem cl_45 : Int32.toNatClampNeg 45 = 45 := by decide +kernel
theorem vi_45 (n : Nat) : vp_in 45 n = (45 < n) := by
  unfold vp_in
  rw [cl_45]
  exact propext ⟨fun h => Nat.not_le.mp fun q => h (Or.inr q), fun h q => q.elim (fun z => absurd z (by decide +kernel)) (fun z => absurd h (Nat.not_lt.mpr z))⟩
theorem cl_46 : Int32.toNatClampNeg 46 = 46 := by decide +kernel
theorem vi_46 (n : Nat) : vp_in 46 n = (46 < n) := by
  unfold vp_in
  rw [cl_46]
  exact propext ⟨fun h => Nat.not_le.mp fun q => h (Or.inr q), fun h q => q.elim (fun z => absurd z (by decide +kernel)) (fun z => absurd h (Nat.not_lt.mpr z))⟩
theorem cl_47 : Int32.toNatClampNeg 47 = 47 := by decide +kernel
theorem vi_47 (n : Nat) : vp_in 47 n = (47 < n) := by
  unfold vp_in
  rw [cl_47]
  exact propext ⟨fun h => Nat.not_le.mp fun q => h (Or.inr q), fun h q => q.elim (fun z => absurd z (by decide +kernel)) (fun z => absurd h (Nat.not_lt.mpr z))⟩
theorem cl_48 : Int32.toNatClampNeg 48 = 48 := by decide +kernel
theorem vi_48 (n : Nat) : vp_in 48 n = (48 < n) := by
  unfold vp_in
  rw [cl_48]
  exact propext ⟨fun h => Nat.not_le.mp fun q => h (Or.inr q), fun h q => q.elim (fun z => absurd z (by decide +kernel)) (fun z => absurd h (Nat.not_lt.mpr z))⟩
theorem cl_49 : Int32.toNatClampNeg 49 = 49 := by decide +kernel
theorem vi_49 (n : Nat) : vp_in 49 n = (49 < n) := by
  unfold vp_in
  rw [cl_49]
  exact propext ⟨fun h => Nat.not_le.mp fun q => h (Or.inr q), fun h q => q.elim (fun z => absurd z (by decide +kernel)) (fun z => absurd h (Nat.not_lt.mpr z))⟩
theorem cl_50 : Int32.toNatClampNeg 50 = 50 := by decide +kernel
theorem vi_50 (n : Nat) : vp_in 50 n = (50 < n) := by
  unfold vp_in
  rw [cl_50]
  exact propext ⟨fun h => Nat.not_le.mp fun q => h (Or.inr q), fun h q => q.elim (fun z => absurd z (by decide +kernel)) (fun z => absurd h (Nat.not_lt.mpr z))⟩
theorem cl_51 : Int32.toNatClampNeg 51 = 51 := by decide +kernel
theorem vi_51 (n : Nat) : vp_in 51 n = (51 < n) := by
  unfold vp_in
  rw [cl_51]
  exact propext ⟨fun h => Nat.not_le.mp fun q => h (Or.inr q), fun h q => q.elim (fun z => absurd z (by decide +kernel)) (fun z => absurd h (Nat.not_lt.mpr z))⟩
theorem cl_52 : Int32.toNatClampNeg 52 = 52 := by decide +kernel
theorem vi_52 (n : Nat) : vp_in 52 n = (52 < n) := by
  unfold vp_in
  rw [cl_52]
  exact propext ⟨fun h => Nat.not_le.mp fun q => h (Or.inr q), fun h q => q.elim (fun z => absurd z (by decide +kernel)) (fun z => absurd h (Nat.not_lt.mpr z))⟩
theorem cl_53 : Int32.toNatClampNeg 53 = 53 := by decide +kernel
theorem vi_53 (n : Nat) : vp_in 53 n = (53 < n) := by
  unfold vp_in
  rw [cl_53]
  exact propext ⟨fun h => Nat.not_le.mp fun q => h (Or.inr q), fun h q => q.elim (fun z => absurd z (by decide +kernel)) (fun z => absurd h (Nat.not_lt.mpr z))⟩
theorem cl_54 : Int32.toNatClampNeg 54 = 54 := by decide +kernel
theorem vi_54 (n : Nat) : vp_in 54 n = (54 < n) := by
  unfold vp_in
  rw [cl_54]
  exact propext ⟨fun h => Nat.not_le.mp fun q => h (Or.inr q), fun h q => q.elim (fun z => absurd z (by decide +kernel)) (fun z => absurd h (Nat.not_lt.mpr z))⟩
theorem cl_55 : Int32.toNatClampNeg 55 = 55 := by decide +kernel
theorem vi_55 (n : Nat) : vp_in 55 n = (55 < n) := by
  unfold vp_in
  rw [cl_55]
  exact propext ⟨fun h => Nat.not_le.mp fun q => h (Or.inr q), fun h q => q.elim (fun z => absurd z (by decide +kernel)) (fun z => absurd h (Nat.not_lt.mpr z))⟩
theorem cl_56 : Int32.toNatClampNeg 56 = 56 := by decide +kernel
theorem vi_56 (n : Nat) : vp_in 56 n = (56 < n) := by
  unfold vp_in
  rw [cl_56]
  exact propext ⟨fun h => Nat.not_le.mp fun q => h (Or.inr q), fun h q => q.elim (fun z => absurd z (by decide +kernel)) (fun z => absurd h (Nat.not_lt.mpr z))⟩
theorem cl_57 : Int32.toNatClampNeg 57 = 57 := by decide +kernel
theorem vi_57 (n : Nat) : vp_in 57 n = (57 < n) := by
  unfold vp_in
  rw [cl_57]
  exact propext ⟨fun h => Nat.not_le.mp fun q => h (Or.inr q), fun h q => q.elim (fun z => absurd z (by decide +kernel)) (fun z => absurd h (Nat.not_lt.mpr z))⟩
theorem cl_58 : Int32.toNatClampNeg 58 = 58 := by decide +kernel
theorem vi_58 (n : Nat) : vp_in 58 n = (58 < n) := by
  unfold vp_in
  rw [cl_58]
  exact propext ⟨fun h => Nat.not_le.mp fun q => h (Or.inr q), fun h q => q.elim (fun z => absurd z (by decide +kernel)) (fun z => absurd h (Nat.not_lt.mpr z))⟩
theorem cl_59 : Int32.toNatClampNeg 59 = 59 := by decide +kernel
theorem vi_59 (n : Nat) : vp_in 59 n = (59 < n) := by
  unfold vp_in
  rw [cl_59]
  exact propext ⟨fun h => Nat.not_le.mp fun q => h (Or.inr q), fun h q => q.elim (fun z => absurd z (by decide +kernel)) (fun z => absurd h (Nat.not_lt.mpr z))⟩
theorem cl_60 : Int32.toNatClampNeg 60 = 60 := by decide +kernel
theorem vi_60 (n : Nat) : vp_in 60 n = (60 < n) := by
  unfold vp_in
  rw [cl_60]
  exact propext ⟨fun h => Nat.not_le.mp fun q => h (Or.inr q), fun h q => q.elim (fun z => absurd z (by decide +kernel)) (fun z => absurd h (Nat.not_lt.mpr z))⟩
theorem cl_61 : Int32.toNatClampNeg 61 = 61 := by decide +kernel
theorem vi_61 (n : Nat) : vp_in 61 n = (61 < n) := by
  unfold vp_in
  rw [cl_61]
  exact propext ⟨fun h => Nat.not_le.mp fun q => h (Or.inr q), fun h q => q.elim (fun z => absurd z (by decide +kernel)) (fun z => absurd h (Nat.not_lt.mpr z))⟩
theorem cl_62 : Int32.toNatClampNeg 62 = 62 := by decide +kernel
theorem vi_62 (n : Nat) : vp_in 62 n = (62 < n) := by
  unfold vp_in
  rw [cl_62]
  exact propext ⟨fun h => Nat.not_le.mp fun q => h (Or.inr q), fun h q => q.elim (fun z => absurd z (by decide +kernel)) (fun z => absurd h (Nat.not_lt.mpr z))⟩
theorem cl_63 : Int32.toNatClampNeg 63 = 63 := by decide +kernel
theorem vi_63 (n : Nat) : vp_in 63 n = (63 < n) := by
  unfold vp_in
  rw [cl_63]
  exact propext ⟨fun h => Nat.not_le.mp fun q => h (Or.inr q), fun h q => q.elim (fun z => absurd z (by decide +kernel)) (fun z => absurd h (Nat.not_lt.mpr z))⟩
theorem cl_64 : Int32.toNatClampNeg 64 = 64 := by decide +kernel
theorem vi_64 (n : Nat) : vp_in 64 n = (64 < n) := by
  unfold vp_in
  rw [cl_64]
  exact propext ⟨fun h => Nat.not_le.mp fun q => h (Or.inr q), fun h q => q.elim (fun z => absurd z (by decide +kernel)) (fun z => absurd h (Nat.not_lt.mpr z))⟩
theorem cl_65 : Int32.toNatClampNeg 65 = 65 := by decide +kernel
theorem vi_65 (n : Nat) : vp_in 65 n = (65 < n) := by
  unfold vp_in
  rw [cl_65]
  exact propext ⟨fun h => Nat.not_le.mp fun q => h (Or.inr q), fun h q => q.elim (fun z => absurd z (by decide +kernel)) (fun z => absurd h (Nat.not_lt.mpr z))⟩
theorem cl_66 : Int32.toNatClampNeg 66 = 66 := by decide +kernel
theorem vi_66 (n : Nat) : vp_in 66 n = (66 < n) := by
  unfold vp_in
  rw [cl_66]
  exact propext ⟨fun h => Nat.not_le.mp fun q => h (Or.inr q), fun h q => q.elim (fun z => absurd z (by decide +kernel)) (fun z => absurd h (Nat.not_lt.mpr z))⟩
theorem cl_67 : Int32.toNatClampNeg 67 = 67 := by decide +kernel
theorem vi_67 (n : Nat) : vp_in 67 n = (67 < n) := by
  unfold vp_in
  rw [cl_67]
  exact propext ⟨fun h => Nat.not_le.mp fun q => h (Or.inr q), fun h q => q.elim (fun z => absurd z (by decide +kernel)) (fun z => absurd h (Nat.not_lt.mpr z))⟩
theorem cl_68 : Int32.toNatClampNeg 68 = 68 := by decide +kernel
theorem vi_68 (n : Nat) : vp_in 68 n = (68 < n) := by
  unfold vp_in
  rw [cl_68]
  exact propext ⟨fun h => Nat.not_le.mp fun q => h (Or.inr q), fun h q => q.elim (fun z => absurd z (by decide +kernel)) (fun z => absurd h (Nat.not_lt.mpr z))⟩
theorem cl_69 : Int32.toNatClampNeg 69 = 69 := by decide +kernel
theorem vi_69 (n : Nat) : vp_in 69 n = (69 < n) := by
  unfold vp_in
  rw [cl_69]
  exact propext ⟨fun h => Nat.not_le.mp fun q => h (Or.inr q), fun h q => q.elim (fun z => absurd z (by decide +kernel)) (fun z => absurd h (Nat.not_lt.mpr z))⟩
theorem cl_70 : Int32.toNatClampNeg 70 = 70 := by decide +kernel
theorem vi_70 (n : Nat) : vp_in 70 n = (70 < n) := by
  unfold vp_in
  rw [cl_70]
  exact propext ⟨fun h => Nat.not_le.mp fun q => h (Or.inr q), fun h q => q.elim (fun z => absurd z (by decide +kernel)) (fun z => absurd h (Nat.not_lt.mpr z))⟩
theorem cl_71 : Int32.toNatClampNeg 71 = 71 := by decide +kernel
theorem vi_71 (n : Nat) : vp_in 71 n = (71 < n) := by
  unfold vp_in
  rw [cl_71]
  exact propext ⟨fun h => Nat.not_le.mp fun q => h (Or.inr q), fun h q => q.elim (fun z => absurd z (by decide +kernel)) (fun z => absurd h (Nat.not_lt.mpr z))⟩
theorem cl_72 : Int32.toNatClampNeg 72 = 72 := by decide +kernel
theorem vi_72 (n : Nat) : vp_in 72 n = (72 < n) := by
  unfold vp_in
  rw [cl_72]
  exact propext ⟨fun h => Nat.not_le.mp fun q => h (Or.inr q), fun h q => q.elim (fun z => absurd z (by decide +kernel)) (fun z => absurd h (Nat.not_lt.mpr z))⟩
theorem cl_73 : Int32.toNatClampNeg 73 = 73 := by decide +kernel
theorem vi_73 (n : Nat) : vp_in 73 n = (73 < n) := by
  unfold vp_in
  rw [cl_73]
  exact propext ⟨fun h => Nat.not_le.mp fun q => h (Or.inr q), fun h q => q.elim (fun z => absurd z (by decide +kernel)) (fun z => absurd h (Nat.not_lt.mpr z))⟩
theorem cl_74 : Int32.toNatClampNeg 74 = 74 := by decide +kernel
theorem vi_74 (n : Nat) : vp_in 74 n = (74 < n) := by
  unfold vp_in
  rw [cl_74]
  exact propext ⟨fun h => Nat.not_le.mp fun q => h (Or.inr q), fun h q => q.elim (fun z => absurd z (by decide +kernel)) (fun z => absurd h (Nat.not_lt.mpr z))⟩
theorem cl_75 : Int32.toNatClampNeg 75 = 75 := by decide +kernel
theorem vi_75 (n : Nat) : vp_in 75 n = (75 < n) := by
  unfold vp_in
  rw [cl_75]
  exact propext ⟨fun h => Nat.not_le.mp fun q => h (Or.inr q), fun h q => q.elim (fun z => absurd z (by decide +kernel)) (fun z => absurd h (Nat.not_lt.mpr z))⟩
theorem cl_76 : Int32.toNatClampNeg 76 = 76 := by decide +kernel
theorem vi_76 (n : Nat) : vp_in 76 n = (76 < n) := by
  unfold vp_in
  rw [cl_76]
  exact propext ⟨fun h => Nat.not_le.mp fun q => h (Or.inr q), fun h q => q.elim (fun z => absurd z (by decide +kernel)) (fun z => absurd h (Nat.not_lt.mpr z))⟩
theorem cl_77 : Int32.toNatClampNeg 77 = 77 := by decide +kernel
theorem vi_77 (n : Nat) : vp_in 77 n = (77 < n) := by
  unfold vp_in
  rw [cl_77]
  exact propext ⟨fun h => Nat.not_le.mp fun q => h (Or.inr q), fun h q => q.elim (fun z => absurd z (by decide +kernel)) (fun z => absurd h (Nat.not_lt.mpr z))⟩
theorem cl_78 : Int32.toNatClampNeg 78 = 78 := by decide +kernel
theorem vi_78 (n : Nat) : vp_in 78 n = (78 < n) := by
  unfold vp_in
  rw [cl_78]
  exact propext ⟨fun h => Nat.not_le.mp fun q => h (Or.inr q), fun h q => q.elim (fun z => absurd z (by decide +kernel)) (fun z => absurd h (Nat.not_lt.mpr z))⟩
theorem cl_79 : Int32.toNatClampNeg 79 = 79 := by decide +kernel
theorem vi_79 (n : Nat) : vp_in 79 n = (79 < n) := by
  unfold vp_in
  rw [cl_79]
  exact propext ⟨fun h => Nat.not_le.mp fun q => h (Or.inr q), fun h q => q.elim (fun z => absurd z (by decide +kernel)) (fun z => absurd h (Nat.not_lt.mpr z))⟩
theorem cl_80 : Int32.toNatClampNeg 80 = 80 := by decide +kernel
theorem vi_80 (n : Nat) : vp_in 80 n = (80 < n) := by
  unfold vp_in
  rw [cl_80]
  exact propext ⟨fun h => Nat.not_le.mp fun q => h (Or.inr q), fun h q => q.elim (fun z => absurd z (by decide +kernel)) (fun z => absurd h (Nat.not_lt.mpr z))⟩
theorem cl_81 : Int32.toNatClampNeg 81 = 81 := by decide +kernel
theorem vi_81 (n : Nat) : vp_in 81 n = (81 < n) := by
  unfold vp_in
  rw [cl_81]
  exact propext ⟨fun h => Nat.not_le.mp fun q => h (Or.inr q), fun h q => q.elim (fun z => absurd z (by decide +kernel)) (fun z => absurd h (Nat.not_lt.mpr z))⟩
theorem cl_82 : Int32.toNatClampNeg 82 = 82 := by decide +kernel
theorem vi_82 (n : Nat) : vp_in 82 n = (82 < n) := by
  unfold vp_in
  rw [cl_82]
  exact propext ⟨fun h => Nat.not_le.mp fun q => h (Or.inr q), fun h q => q.elim (fun z => absurd z (by decide +kernel)) (fun z => absurd h (Nat.not_lt.mpr z))⟩
theorem cl_83 : Int32.toNatClampNeg 83 = 83 := by decide +kernel
theorem vi_83 (n : Nat) : vp_in 83 n = (83 < n) := by
  unfold vp_in
  rw [cl_83]
  exact propext ⟨fun h => Nat.not_le.mp fun q => h (Or.inr q), fun h q => q.elim (fun z => absurd z (by decide +kernel)) (fun z => absurd h (Nat.not_lt.mpr z))⟩
theorem cl_84 : Int32.toNatClampNeg 84 = 84 := by decide +kernel
theorem vi_84 (n : Nat) : vp_in 84 n = (84 < n) := by
  unfold vp_in
  rw [cl_84]
  exact propext ⟨fun h => Nat.not_le.mp fun q => h (Or.inr q), fun h q => q.elim (fun z => absurd z (by decide +kernel)) (fun z => absurd h (Nat.not_lt.mpr z))⟩
theorem cl_85 : Int32.toNatClampNeg 85 = 85 := by decide +kernel
theorem vi_85 (n : Nat) : vp_in 85 n = (85 < n) := by
  unfold vp_in
  rw [cl_85]
  exact propext ⟨fun h => Nat.not_le.mp fun q => h (Or.inr q), fun h q => q.elim (fun z => absurd z (by decide +kernel)) (fun z => absurd h (Nat.not_lt.mpr z))⟩
theorem cl_86 : Int32.toNatClampNeg 86 = 86 := by decide +kernel
theorem vi_86 (n : Nat) : vp_in 86 n = (86 < n) := by
  unfold vp_in
  rw [cl_86]
  exact propext ⟨fun h => Nat.not_le.mp fun q => h (Or.inr q), fun h q => q.elim (fun z => absurd z (by decide +kernel)) (fun z => absurd h (Nat.not_lt.mpr z))⟩
theorem cl_87 : Int32.toNatClampNeg 87 = 87 := by decide +kernel
theorem vi_87 (n : Nat) : vp_in 87 n = (87 < n) := by
  unfold vp_in
  rw [cl_87]
  exact propext ⟨fun h => Nat.not_le.mp fun q => h (Or.inr q), fun h q => q.elim (fun z => absurd z (by decide +kernel)) (fun z => absurd h (Nat.not_lt.mpr z))⟩
theorem cl_88 : Int32.toNatClampNeg 88 = 88 := by decide +kernel
theorem vi_88 (n : Nat) : vp_in 88 n = (88 < n) := by
  unfold vp_in
  rw [cl_88]
  exact propext ⟨fun h => Nat.not_le.mp fun q => h (Or.inr q), fun h q => q.elim (fun z => absurd z (by decide +kernel)) (fun z => absurd h (Nat.not_lt.mpr z))⟩
theorem cl_89 : Int32.toNatClampNeg 89 = 89 := by decide +kernel
theorem vi_89 (n : Nat) : vp_in 89 n = (89 < n) := by
  unfold vp_in
  rw [cl_89]
  exact propext ⟨fun h => Nat.not_le.mp fun q => h (Or.inr q), fun h q => q.elim (fun z => absurd z (by decide +kernel)) (fun z => absurd h (Nat.not_lt.mpr z))⟩
theorem cl_90 : Int32.toNatClampNeg 90 = 90 := by decide +kernel
theorem vi_90 (n : Nat) : vp_in 90 n = (90 < n) := by
  unfold vp_in
  rw [cl_90]
  exact propext ⟨fun h => Nat.not_le.mp fun q => h (Or.inr q), fun h q => q.elim (fun z => absurd z (by decide +kernel)) (fun z => absurd h (Nat.not_lt.mpr z))⟩
theorem cl_91 : Int32.toNatClampNeg 91 = 91 := by decide +kernel
theorem vi_91 (n : Nat) : vp_in 91 n = (91 < n) := by
  unfold vp_in
  rw [cl_91]
  exact propext ⟨fun h => Nat.not_le.mp fun q => h (Or.inr q), fun h q => q.elim (fun z => absurd z (by decide +kernel)) (fun z => absurd h (Nat.not_lt.mpr z))⟩
theorem cl_92 : Int32.toNatClampNeg 92 = 92 := by decide +kernel
theorem vi_92 (n : Nat) : vp_in 92 n = (92 < n) := by
  unfold vp_in
  rw [cl_92]
  exact propext ⟨fun h => Nat.not_le.mp fun q => h (Or.inr q), fun h q => q.elim (fun z => absurd z (by decide +kernel)) (fun z => absurd h (Nat.not_lt.mpr z))⟩
theorem cl_93 : Int32.toNatClampNeg 93 = 93 := by decide +kernel
theorem vi_93 (n : Nat) : vp_in 93 n = (93 < n) := by
  unfold vp_in
  rw [cl_93]
  exact propext ⟨fun h => Nat.not_le.mp fun q => h (Or.inr q), fun h q => q.elim (fun z => absurd z (by decide +kernel)) (fun z => absurd h (Nat.not_lt.mpr z))⟩
theorem cl_94 : Int32.toNatClampNeg 94 = 94 := by decide +kernel
theorem vi_94 (n : Nat) : vp_in 94 n = (94 < n) := by
  unfold vp_in
  rw [cl_94]
  exact propext ⟨fun h => Nat.not_le.mp fun q => h (Or.inr q), fun h q => q.elim (fun z => absurd z (by decide +kernel)) (fun z => absurd h (Nat.not_lt.mpr z))⟩
theorem cl_95 : Int32.toNatClampNeg 95 = 95 := by decide +kernel
theorem vi_95 (n : Nat) : vp_in 95 n = (95 < n) := by
  unfold vp_in
  rw [cl_95]
  exact propext ⟨fun h => Nat.not_le.mp fun q => h (Or.inr q), fun h q => q.elim (fun z => absurd z (by decide +kernel)) (fun z => absurd h (Nat.not_lt.mpr z))⟩
theorem cl_96 : Int32.toNatClampNeg 96 = 96 := by decide +kernel
theorem vi_96 (n : Nat) : vp_in 96 n = (96 < n) := by
  unfold vp_in
  rw [cl_96]
  exact propext ⟨fun h => Nat.not_le.mp fun q => h (Or.inr q), fun h q => q.elim (fun z => absurd z (by decide +kernel)) (fun z => absurd h (Nat.not_lt.mpr z))⟩
theorem cl_97 : Int32.toNatClampNeg 97 = 97 := by decide +kernel
theorem vi_97 (n : Nat) : vp_in 97 n = (97 < n) := by
  unfold vp_in
  rw [cl_97]
  exact propext ⟨fun h => Nat.not_le.mp fun q => h (Or.inr q), fun h q => q.elim (fun z => absurd z (by decide +kernel)) (fun z => absurd h (Nat.not_lt.mpr z))⟩
theorem cl_98 : Int32.toNatClampNeg 98 = 98 := by decide +kernel
theorem vi_98 (n : Nat) : vp_in 98 n = (98 < n) := by
  unfold vp_in
  rw [cl_98]
  exact propext ⟨fun h => Nat.not_le.mp fun q => h (Or.inr q), fun h q => q.elim (fun z => absurd z (by decide +kernel)) (fun z => absurd h (Nat.not_lt.mpr z))⟩
theorem cl_99 : Int32.toNatClampNeg 99 = 99 := by decide +kernel
theorem vi_99 (n : Nat) : vp_in 99 n = (99 < n) := by
  unfold vp_in
  rw [cl_99]
  exact propext ⟨fun h => Nat.not_le.mp fun q => h (Or.inr q), fun h q => q.elim (fun z => absurd z (by decide +kernel)) (fun z => absurd h (Nat.not_lt.mpr z))⟩
theorem cl_100 : Int32.toNatClampNeg 100 = 100 := by decide +kernel
theorem vi_100 (n : Nat) : vp_in 100 n = (100 < n) := by
  unfold vp_in
  rw [cl_100]
  exact propext ⟨fun h => Nat.not_le.mp fun q => h (Or.inr q), fun h q => q.elim (fun z => absurd z (by decide +kernel)) (fun z => absurd h (Nat.not_lt.mpr z))⟩
theorem cl_101 : Int32.toNatClampNeg 101 = 101 := by decide +kernel
theorem vi_101 (n : Nat) : vp_in 101 n = (101 < n) := by
  unfold vp_in
  rw [cl_101]
  exact propext ⟨fun h => Nat.not_le.mp fun q => h (Or.inr q), fun h q => q.elim (fun z => absurd z (by decide +kernel)) (fun z => absurd h (Nat.not_lt.mpr z))⟩
theorem cl_102 : Int32.toNatClampNeg 102 = 102 := by decide +kernel
theorem vi_102 (n : Nat) : vp_in 102 n = (102 < n) := by
  unfold vp_in
  rw [cl_102]
  exact propext ⟨fun h => Nat.not_le.mp fun q => h (Or.inr q), fun h q => q.elim (fun z => absurd z (by decide +kernel)) (fun z => absurd h (Nat.not_lt.mpr z))⟩
theorem cl_103 : Int32.toNatClampNeg 103 = 103 := by decide +kernel
theorem vi_103 (n : Nat) : vp_in 103 n = (103 < n) := by
  unfold vp_in
  rw [cl_103]
  exact propext ⟨fun h => Nat.not_le.mp fun q => h (Or.inr q), fun h q => q.elim (fun z => absurd z (by decide +kernel)) (fun z => absurd h (Nat.not_lt.mpr z))⟩
theorem cl_104 : Int32.toNatClampNeg 104 = 104 := by decide +kernel
theorem vi_104 (n : Nat) : vp_in 104 n = (104 < n) := by
  unfold vp_in
  rw [cl_104]
  exact propext ⟨fun h => Nat.not_le.mp fun q => h (Or.inr q), fun h q => q.elim (fun z => absurd z (by decide +kernel)) (fun z => absurd h (Nat.not_lt.mpr z))⟩
theorem cl_105 : Int32.toNatClampNeg 105 = 105 := by decide +kernel
theorem vi_105 (n : Nat) : vp_in 105 n = (105 < n) := by
  unfold vp_in
  rw [cl_105]
  exact propext ⟨fun h => Nat.not_le.mp fun q => h (Or.inr q), fun h q => q.elim (fun z => absurd z (by decide +kernel)) (fun z => absurd h (Nat.not_lt.mpr z))⟩
theorem cl_106 : Int32.toNatClampNeg 106 = 106 := by decide +kernel
theorem vi_106 (n : Nat) : vp_in 106 n = (106 < n) := by
  unfold vp_in
  rw [cl_106]
  exact propext ⟨fun h => Nat.not_le.mp fun q => h (Or.inr q), fun h q => q.elim (fun z => absurd z (by decide +kernel)) (fun z => absurd h (Nat.not_lt.mpr z))⟩
theorem cl_107 : Int32.toNatClampNeg 107 = 107 := by decide +kernel
theorem vi_107 (n : Nat) : vp_in 107 n = (107 < n) := by
  unfold vp_in
  rw [cl_107]
  exact propext ⟨fun h => Nat.not_le.mp fun q => h (Or.inr q), fun h q => q.elim (fun z => absurd z (by decide +kernel)) (fun z => absurd h (Nat.not_lt.mpr z))⟩
theorem cl_108 : Int32.toNatClampNeg 108 = 108 := by decide +kernel
theorem vi_108 (n : Nat) : vp_in 108 n = (108 < n) := by
  unfold vp_in
  rw [cl_108]
  exact propext ⟨fun h => Nat.not_le.mp fun q => h (Or.inr q), fun h q => q.elim (fun z => absurd z (by decide +kernel)) (fun z => absurd h (Nat.not_lt.mpr z))⟩
theorem cl_109 : Int32.toNatClampNeg 109 = 109 := by decide +kernel
theorem vi_109 (n : Nat) : vp_in 109 n = (109 < n) := by
  unfold vp_in
  rw [cl_109]
  exact propext ⟨fun h => Nat.not_le.mp fun q => h (Or.inr q), fun h q => q.elim (fun z => absurd z (by decide +kernel)) (fun z => absurd h (Nat.not_lt.mpr z))⟩
theorem cl_110 : Int32.toNatClampNeg 110 = 110 := by decide +kernel
theorem vi_110 (n : Nat) : vp_in 110 n = (110 < n) := by
  unfold vp_in
  rw [cl_110]
  exact propext ⟨fun h => Nat.not_le.mp fun q => h (Or.inr q), fun h q => q.elim (fun z => absurd z (by decide +kernel)) (fun z => absurd h (Nat.not_lt.mpr z))⟩
theorem cl_111 : Int32.toNatClampNeg 111 = 111 := by decide +kernel
theorem vi_111 (n : Nat) : vp_in 111 n = (111 < n) := by
  unfold vp_in
  rw [cl_111]
  exact propext ⟨fun h => Nat.not_le.mp fun q => h (Or.inr q), fun h q => q.elim (fun z => absurd z (by decide +kernel)) (fun z => absurd h (Nat.not_lt.mpr z))⟩
theorem cl_112 : Int32.toNatClampNeg 112 = 112 := by decide +kernel
theorem vi_112 (n : Nat) : vp_in 112 n = (112 < n) := by
  unfold vp_in
  rw [cl_112]
  exact propext ⟨fun h => Nat.not_le.mp fun q => h (Or.inr q), fun h q => q.elim (fun z => absurd z (by decide +kernel)) (fun z => absurd h (Nat.not_lt.mpr z))⟩
theorem cl_113 : Int32.toNatClampNeg 113 = 113 := by decide +kernel
theorem vi_113 (n : Nat) : vp_in 113 n = (113 < n) := by
  unfold vp_in
  rw [cl_113]
  exact propext ⟨fun h => Nat.not_le.mp fun q => h (Or.inr q), fun h q => q.elim (fun z => absurd z (by decide +kernel)) (fun z => absurd h (Nat.not_lt.mpr z))⟩
theorem cl_114 : Int32.toNatClampNeg 114 = 114 := by decide +kernel
theorem vi_114 (n : Nat) : vp_in 114 n = (114 < n) := by
  unfold vp_in
  rw [cl_114]
  exact propext ⟨fun h => Nat.not_le.mp fun q => h (Or.inr q), fun h q => q.elim (fun z => absurd z (by decide +kernel)) (fun z => absurd h (Nat.not_lt.mpr z))⟩
theorem cl_115 : Int32.toNatClampNeg 115 = 115 := by decide +kernel
theorem vi_115 (n : Nat) : vp_in 115 n = (115 < n) := by
  unfold vp_in
  rw [cl_115]
  exact propext ⟨fun h => Nat.not_le.mp fun q => h (Or.inr q), fun h q => q.elim (fun z => absurd z (by decide +kernel)) (fun z => absurd h (Nat.not_lt.mpr z))⟩
theorem cl_116 : Int32.toNatClampNeg 116 = 116 := by decide +kernel
theorem vi_116 (n : Nat) : vp_in 116 n = (116 < n) := by
  unfold vp_in
  rw [cl_116]
  exact propext ⟨fun h => Nat.not_le.mp fun q => h (Or.inr q), fun h q => q.elim (fun z => absurd z (by decide +kernel)) (fun z => absurd h (Nat.not_lt.mpr z))⟩
theorem cl_117 : Int32.toNatClampNeg 117 = 117 := by decide +kernel
theorem vi_117 (n : Nat) : vp_in 117 n = (117 < n) := by
  unfold vp_in
  rw [cl_117]
  exact propext ⟨fun h => Nat.not_le.mp fun q => h (Or.inr q), fun h q => q.elim (fun z => absurd z (by decide +kernel)) (fun z => absurd h (Nat.not_lt.mpr z))⟩
theorem cl_118 : Int32.toNatClampNeg 118 = 118 := by decide +kernel
theorem vi_118 (n : Nat) : vp_in 118 n = (118 < n) := by
  unfold vp_in
  rw [cl_118]
  exact propext ⟨fun h => Nat.not_le.mp fun q => h (Or.inr q), fun h q => q.elim (fun z => absurd z (by decide +kernel)) (fun z => absurd h (Nat.not_lt.mpr z))⟩
theorem cl_119 : Int32.toNatClampNeg 119 = 119 := by decide +kernel
theorem vi_119 (n : Nat) : vp_in 119 n = (119 < n) := by
  unfold vp_in
  rw [cl_119]
  exact propext ⟨fun h => Nat.not_le.mp fun q => h (Or.inr q), fun h q => q.elim (fun z => absurd z (by decide +kernel)) (fun z => absurd h (Nat.not_lt.mpr z))⟩
theorem cl_120 : Int32.toNatClampNeg 120 = 120 := by decide +kernel
theorem vi_120 (n : Nat) : vp_in 120 n = (120 < n) := by
  unfold vp_in
  rw [cl_120]
  exact propext ⟨fun h => Nat.not_le.mp fun q => h (Or.inr q), fun h q => q.elim (fun z => absurd z (by decide +kernel)) (fun z => absurd h (Nat.not_lt.mpr z))⟩
theorem cl_121 : Int32.toNatClampNeg 121 = 121 := by decide +kernel
theorem vi_121 (n : Nat) : vp_in 121 n = (121 < n) := by
  unfold vp_in
  rw [cl_121]
  exact propext ⟨fun h => Nat.not_le.mp fun q => h (Or.inr q), fun h q => q.elim (fun z => absurd z (by decide +kernel)) (fun z => absurd h (Nat.not_lt.mpr z))⟩
theorem cl_122 : Int32.toNatClampNeg 122 = 122 := by decide +kernel
theorem vi_122 (n : Nat) : vp_in 122 n = (122 < n) := by
  unfold vp_in
  rw [cl_122]
  exact propext ⟨fun h => Nat.not_le.mp fun q => h (Or.inr q), fun h q => q.elim (fun z => absurd z (by decide +kernel)) (fun z => absurd h (Nat.not_lt.mpr z))⟩
theorem cl_123 : Int32.toNatClampNeg 123 = 123 := by decide +kernel
theorem vi_123 (n : Nat) : vp_in 123 n = (123 < n) := by
  unfold vp_in
  rw [cl_123]
  exact propext ⟨fun h => Nat.not_le.mp fun q => h (Or.inr q), fun h q => q.elim (fun z => absurd z (by decide +kernel)) (fun z => absurd h (Nat.not_lt.mpr z))⟩
theorem cl_124 : Int32.toNatClampNeg 124 = 124 := by decide +kernel
theorem vi_124 (n : Nat) : vp_in 124 n = (124 < n) := by
  unfold vp_in
  rw [cl_124]
  exact propext ⟨fun h => Nat.not_le.mp fun q => h (Or.inr q), fun h q => q.elim (fun z => absurd z (by decide +kernel)) (fun z => absurd h (Nat.not_lt.mpr z))⟩
theorem cl_125 : Int32.toNatClampNeg 125 = 125 := by decide +kernel
theorem vi_125 (n : Nat) : vp_in 125 n = (125 < n) := by
  unfold vp_in
  rw [cl_125]
  exact propext ⟨fun h => Nat.not_le.mp fun q => h (Or.inr q), fun h q => q.elim (fun z => absurd z (by decide +kernel)) (fun z => absurd h (Nat.not_lt.mpr z))⟩
theorem cl_126 : Int32.toNatClampNeg 126 = 126 := by decide +kernel
theorem vi_126 (n : Nat) : vp_in 126 n = (126 < n) := by
  unfold vp_in
  rw [cl_126]
  exact propext ⟨fun h => Nat.not_le.mp fun q => h (Or.inr q), fun h q => q.elim (fun z => absurd z (by decide +kernel)) (fun z => absurd h (Nat.not_lt.mpr z))⟩
theorem cl_127 : Int32.toNatClampNeg 127 = 127 := by decide +kernel
theorem vi_127 (n : Nat) : vp_in 127 n = (127 < n) := by
  unfold vp_in
  rw [cl_127]
  exact propext ⟨fun h => Nat.not_le.mp fun q => h (Or.inr q), fun h q => q.elim (fun z => absurd z (by decide +kernel)) (fun z => absurd h (Nat.not_lt.mpr z))⟩
theorem cl_128 : Int32.toNatClampNeg 128 = 128 := by decide +kernel
theorem vi_128 (n : Nat) : vp_in 128 n = (128 < n) := by
  unfold vp_in
  rw [cl_128]
  exact propext ⟨fun h => Nat.not_le.mp fun q => h (Or.inr q), fun h q => q.elim (fun z => absurd z (by decide +kernel)) (fun z => absurd h (Nat.not_lt.mpr z))⟩
theorem cl_129 : Int32.toNatClampNeg 129 = 129 := by decide +kernel
theorem vi_129 (n : Nat) : vp_in 129 n = (129 < n) := by
  unfold vp_in
  rw [cl_129]
  exact propext ⟨fun h => Nat.not_le.mp fun q => h (Or.inr q), fun h q => q.elim (fun z => absurd z (by decide +kernel)) (fun z => absurd h (Nat.not_lt.mpr z))⟩
theorem cl_130 : Int32.toNatClampNeg 130 = 130 := by decide +kernel
theorem vi_130 (n : Nat) : vp_in 130 n = (130 < n) := by
  unfold vp_in
  rw [cl_130]
  exact propext ⟨fun h => Nat.not_le.mp fun q => h (Or.inr q), fun h q => q.elim (fun z => absurd z (by decide +kernel)) (fun z => absurd h (Nat.not_lt.mpr z))⟩
theorem cl_131 : Int32.toNatClampNeg 131 = 131 := by decide +kernel
theorem vi_131 (n : Nat) : vp_in 131 n = (131 < n) := by
  unfold vp_in
  rw [cl_131]
  exact propext ⟨fun h => Nat.not_le.mp fun q => h (Or.inr q), fun h q => q.elim (fun z => absurd z (by decide +kernel)) (fun z => absurd h (Nat.not_lt.mpr z))⟩
theorem cl_132 : Int32.toNatClampNeg 132 = 132 := by decide +kernel
theorem vi_132 (n : Nat) : vp_in 132 n = (132 < n) := by
  unfold vp_in
  rw [cl_132]
  exact propext ⟨fun h => Nat.not_le.mp fun q => h (Or.inr q), fun h q => q.elim (fun z => absurd z (by decide +kernel)) (fun z => absurd h (Nat.not_lt.mpr z))⟩
theorem cl_133 : Int32.toNatClampNeg 133 = 133 := by decide +kernel
theorem vi_133 (n : Nat) : vp_in 133 n = (133 < n) := by
  unfold vp_in
  rw [cl_133]
  exact propext ⟨fun h => Nat.not_le.mp fun q => h (Or.inr q), fun h q => q.elim (fun z => absurd z (by decide +kernel)) (fun z => absurd h (Nat.not_lt.mpr z))⟩
theorem cl_134 : Int32.toNatClampNeg 134 = 134 := by decide +kernel
theorem vi_134 (n : Nat) : vp_in 134 n = (134 < n) := by
  unfold vp_in
  rw [cl_134]
  exact propext ⟨fun h => Nat.not_le.mp fun q => h (Or.inr q), fun h q => q.elim (fun z => absurd z (by decide +kernel)) (fun z => absurd h (Nat.not_lt.mpr z))⟩
theorem cl_135 : Int32.toNatClampNeg 135 = 135 := by decide +kernel
theorem vi_135 (n : Nat) : vp_in 135 n = (135 < n) := by
  unfold vp_in
  rw [cl_135]
  exact propext ⟨fun h => Nat.not_le.mp fun q => h (Or.inr q), fun h q => q.elim (fun z => absurd z (by decide +kernel)) (fun z => absurd h (Nat.not_lt.mpr z))⟩
theorem cl_136 : Int32.toNatClampNeg 136 = 136 := by decide +kernel
theorem vi_136 (n : Nat) : vp_in 136 n = (136 < n) := by
  unfold vp_in
  rw [cl_136]
  exact propext ⟨fun h => Nat.not_le.mp fun q => h (Or.inr q), fun h q => q.elim (fun z => absurd z (by decide +kernel)) (fun z => absurd h (Nat.not_lt.mpr z))⟩
theorem cl_137 : Int32.toNatClampNeg 137 = 137 := by decide +kernel
theorem vi_137 (n : Nat) : vp_in 137 n = (137 < n) := by
  unfold vp_in
  rw [cl_137]
  exact propext ⟨fun h => Nat.not_le.mp fun q => h (Or.inr q), fun h q => q.elim (fun z => absurd z (by decide +kernel)) (fun z => absurd h (Nat.not_lt.mpr z))⟩
theorem cl_138 : Int32.toNatClampNeg 138 = 138 := by decide +kernel
theorem vi_138 (n : Nat) : vp_in 138 n = (138 < n) := by
  unfold vp_in
  rw [cl_138]
  exact propext ⟨fun h => Nat.not_le.mp fun q => h (Or.inr q), fun h q => q.elim (fun z => absurd z (by decide +kernel)) (fun z => absurd h (Nat.not_lt.mpr z))⟩
theorem cl_139 : Int32.toNatClampNeg 139 = 139 := by decide +kernel
theorem vi_139 (n : Nat) : vp_in 139 n = (139 < n) := by
  unfold vp_in
  rw [cl_139]
  exact propext ⟨fun h => Nat.not_le.mp fun q => h (Or.inr q), fun h q => q.elim (fun z => absurd z (by decide +kernel)) (fun z => absurd h (Nat.not_lt.mpr z))⟩
theorem ti_0 : Int32.toInt 0 = 0 := by decide +kernel
theorem ti_1 : Int32.toInt 1 = 1 := by decide +kernel
theorem ti_2 : Int32.toInt 2 = 2 := by decide +kernel
theorem ti_3 : Int32.toInt 3 = 3 := by decide +kernel
theorem ti_4 : Int32.toInt 4 = 4 := by decide +kernel
theorem ti_5 : Int32.toInt 5 = 5 := by decide +kernel
theorem ti_6 : Int32.toInt 6 = 6 := by decide +kernel
theorem ti_7 : Int32.toInt 7 = 7 := by decide +kernel
theorem ti_8 : Int32.toInt 8 = 8 := by decide +kernel
theorem ti_9 : Int32.toInt 9 = 9 := by decide +kernel
theorem ti_10 : Int32.toInt 10 = 10 := by decide +kernel
theorem ti_11 : Int32.toInt 11 = 11 := by decide +kernel
theorem ti_12 : Int32.toInt 12 = 12 := by decide +kernel
theorem ti_13 : Int32.toInt 13 = 13 := by decide +kernel
theorem ti_14 : Int32.toInt 14 = 14 := by decide +kernel
theorem ti_15 : Int32.toInt 15 = 15 := by decide +kernel
theorem ti_16 : Int32.toInt 16 = 16 := by decide +kernel
theorem ti_17 : Int32.toInt 17 = 17 := by decide +kernel
theorem ti_18 : Int32.toInt 18 = 18 := by decide +kernel
theorem ti_19 : Int32.toInt 19 = 19 := by decide +kernel
theorem ti_20 : Int32.toInt 20 = 20 := by decide +kernel
theorem ti_21 : Int32.toInt 21 = 21 := by decide +kernel
theorem ti_22 : Int32.toInt 22 = 22 := by decide +kernel
theorem ti_23 : Int32.toInt 23 = 23 := by decide +kernel
theorem ti_24 : Int32.toInt 24 = 24 := by decide +kernel
theorem ti_25 : Int32.toInt 25 = 25 := by decide +kernel
theorem ti_26 : Int32.toInt 26 = 26 := by decide +kernel
theorem ti_27 : Int32.toInt 27 = 27 := by decide +kernel
theorem ti_28 : Int32.toInt 28 = 28 := by decide +kernel
theorem ti_29 : Int32.toInt 29 = 29 := by decide +kernel
theorem ti_30 : Int32.toInt 30 = 30 := by decide +kernel
theorem ti_31 : Int32.toInt 31 = 31 := by decide +kernel
theorem ti_32 : Int32.toInt 32 = 32 := by decide +kernel
theorem ti_33 : Int32.toInt 33 = 33 := by decide +kernel
theorem ti_34 : Int32.toInt 34 = 34 := by decide +kernel
theorem ti_35 : Int32.toInt 35 = 35 := by decide +kernel
theorem ti_36 : Int32.toInt 36 = 36 := by decide +kernel
theorem ti_37 : Int32.toInt 37 = 37 := by decide +kernel
theorem ti_38 : Int32.toInt 38 = 38 := by decide +kernel
theorem ti_39 : Int32.toInt 39 = 39 := by decide +kernel
theorem ti_40 : Int32.toInt 40 = 40 := by decide +kernel
theorem ti_41 : Int32.toInt 41 = 41 := by decide +kernel
theorem ti_42 : Int32.toInt 42 = 42 := by decide +kernel
theorem ti_43 : Int32.toInt 43 = 43 := by decide +kernel
theorem ti_44 : Int32.toInt 44 = 44 := by decide +kernel
theorem ti_45 : Int32.toInt 45 = 45 := by decide +kernel
theorem ti_46 : Int32.toInt 46 = 46 := by decide +kernel
theorem ti_47 : Int32.toInt 47 = 47 := by decide +kernel
theorem ti_48 : Int32.toInt 48 = 48 := by decide +kernel
theorem ti_49 : Int32.toInt 49 = 49 := by decide +kernel
theorem ti_50 : Int32.toInt 50 = 50 := by decide +kernel
theorem ti_51 : Int32.toInt 51 = 51 := by decide +kernel
theorem ti_52 : Int32.toInt 52 = 52 := by decide +kernel
theorem ti_53 : Int32.toInt 53 = 53 := by decide +kernel
theorem ti_54 : Int32.toInt 54 = 54 := by decide +kernel
theorem ti_55 : Int32.toInt 55 = 55 := by decide +kernel
theorem ti_56 : Int32.toInt 56 = 56 := by decide +kernel
theorem ti_57 : Int32.toInt 57 = 57 := by decide +kernel
theorem ti_58 : Int32.toInt 58 = 58 := by decide +kernel
theorem ti_59 : Int32.toInt 59 = 59 := by decide +kernel
theorem ti_60 : Int32.toInt 60 = 60 := by decide +kernel
theorem ti_61 : Int32.toInt 61 = 61 := by decide +kernel
theorem ti_62 : Int32.toInt 62 = 62 := by decide +kernel
theorem ti_63 : Int32.toInt 63 = 63 := by decide +kernel
theorem ne_m100_m2 : ((-100 : Int32) = -2) = False := by decide +kernel
theorem ne_m100_m1 : ((-100 : Int32) = -1) = False := by decide +kernel
theorem ne_m100_0 : ((-100 : Int32) = 0) = False := by decide +kernel
theorem ne_m100_1 : ((-100 : Int32) = 1) = False := by decide +kernel
theorem ne_m100_2 : ((-100 : Int32) = 2) = False := by decide +kernel
theorem ne_m100_3 : ((-100 : Int32) = 3) = False := by decide +kernel
theorem ne_m100_4 : ((-100 : Int32) = 4) = False := by decide +kernel
theorem ne_m100_5 : ((-100 : Int32) = 5) = False := by decide +kernel
theorem ne_m100_6 : ((-100 : Int32) = 6) = False := by decide +kernel
theorem ne_m100_7 : ((-100 : Int32) = 7) = False := by decide +kernel
theorem ne_m100_8 : ((-100 : Int32) = 8) = False := by decide +kernel
theorem ne_m100_9 : ((-100 : Int32) = 9) = False := by decide +kernel
theorem ne_m2_m100 : ((-2 : Int32) = -100) = False := by decide +kernel
theorem ne_m2_m1 : ((-2 : Int32) = -1) = False := by decide +kernel
theorem ne_m2_0 : ((-2 : Int32) = 0) = False := by decide +kernel
theorem ne_m2_1 : ((-2 : Int32) = 1) = False := by decide +kernel
theorem ne_m2_2 : ((-2 : Int32) = 2) = False := by decide +kernel
theorem ne_m2_3 : ((-2 : Int32) = 3) = False := by decide +kernel
theorem ne_m2_4 : ((-2 : Int32) = 4) = False := by decide +kernel
theorem ne_m2_5 : ((-2 : Int32) = 5) = False := by decide +kernel
theorem ne_m2_6 : ((-2 : Int32) = 6) = False := by decide +kernel
theorem ne_m2_7 : ((-2 : Int32) = 7) = False := by decide +kernel
theorem ne_m2_8 : ((-2 : Int32) = 8) = False := by decide +kernel
theorem ne_m2_9 : ((-2 : Int32) = 9) = False := by decide +kernel
theorem ne_m1_m100 : ((-1 : Int32) = -100) = False := by decide +kernel
theorem ne_m1_m2 : ((-1 : Int32) = -2) = False := by decide +kernel
theorem ne_m1_0 : ((-1 : Int32) = 0) = False := by decide +kernel
theorem ne_m1_1 : ((-1 : Int32) = 1) = False := by decide +kernel
theorem ne_m1_2 : ((-1 : Int32) = 2) = False := by decide +kernel
theorem ne_m1_3 : ((-1 : Int32) = 3) = False := by decide +kernel
theorem ne_m1_4 : ((-1 : Int32) = 4) = False := by decide +kernel
theorem ne_m1_5 : ((-1 : Int32) = 5) = False := by decide +kernel
theorem ne_m1_6 : ((-1 : Int32) = 6) = False := by decide +kernel
theorem ne_m1_7 : ((-1 : Int32) = 7) = False := by decide +kernel
theorem ne_m1_8 : ((-1 : Int32) = 8) = False := by decide +kernel
theorem ne_m1_9 : ((-1 : Int32) = 9) = False := by decide +kernel
theorem ne_0_m100 : ((0 : Int32) = -100) = False := by decide +kernel
theorem ne_0_m2 : ((0 : Int32) = -2) = False := by decide +kernel
theorem ne_0_m1 : ((0 : Int32) = -1) = False := by decide +kernel
theorem ne_0_1 : ((0 : Int32) = 1) = False := by decide +kernel
theorem ne_0_2 : ((0 : Int32) = 2) = False := by decide +kernel
theorem ne_0_3 : ((0 : Int32) = 3) = False := by decide +kernel
theorem ne_0_4 : ((0 : Int32) = 4) = False := by decide +kernel
theorem ne_0_5 : ((0 : Int32) = 5) = False := by decide +kernel
theorem ne_0_6 : ((0 : Int32) = 6) = False := by decide +kernel
theorem ne_0_7 : ((0 : Int32) = 7) = False := by decide +kernel
theorem ne_0_8 : ((0 : Int32) = 8) = False := by decide +kernel
theorem ne_0_9 : ((0 : Int32) = 9) = False := by decide +kernel
theorem ne_1_m100 : ((1 : Int32) = -100) = False := by decide +kernel
theorem ne_1_m2 : ((1 : Int32) = -2) = False := by decide +kernel
theorem ne_1_m1 : ((1 : Int32) = -1) = False := by decide +kernel
theorem ne_1_0 : ((1 : Int32) = 0) = False := by decide +kernel
theorem ne_1_2 : ((1 : Int32) = 2) = False := by decide +kernel
theorem ne_1_3 : ((1 : Int32) = 3) = False := by decide +kernel
theorem ne_1_4 : ((1 : Int32) = 4) = False := by decide +kernel
theorem ne_1_5 : ((1 : Int32) = 5) = False := by decide +kernel
theorem ne_1_6 : ((1 : Int32) = 6) = False := by decide +kernel
theorem ne_1_7 : ((1 : Int32) = 7) = False := by decide +kernel
theorem ne_1_8 : ((1 : Int32) = 8) = False := by decide +kernel
theorem ne_1_9 : ((1 : Int32) = 9) = False := by decide +kernel
theorem ne_2_m100 : ((2 : Int32) = -100) = False := by decide +kernel
theorem ne_2_m2 : ((2 : Int32) = -2) = False := by decide +kernel
theorem ne_2_m1 : ((2 : Int32) = -1) = False := by decide +kernel
theorem ne_2_0 : ((2 : Int32) = 0) = False := by decide +kernel
theorem ne_2_1 : ((2 : Int32) = 1) = False := by decide +kernel
theorem ne_2_3 : ((2 : Int32) = 3) = False := by decide +kernel
theorem ne_2_4 : ((2 : Int32) = 4) = False := by decide +kernel
theorem ne_2_5 : ((2 : Int32) = 5) = False := by decide +kernel
theorem ne_2_6 : ((2 : Int32) = 6) = False := by decide +kernel
theorem ne_2_7 : ((2 : Int32) = 7) = False := by decide +kernel
theorem ne_2_8 : ((2 : Int32) = 8) = False := by decide +kernel
theorem ne_2_9 : ((2 : Int32) = 9) = False := by decide +kernel
theorem ne_3_m100 : ((3 : Int32) = -100) = False := by decide +kernel
theorem ne_3_m2 : ((3 : Int32) = -2) = False := by decide +kernel
theorem ne_3_m1 : ((3 : Int32) = -1) = False := by decide +kernel
theorem ne_3_0 : ((3 : Int32) = 0) = False := by decide +kernel
theorem ne_3_1 : ((3 : Int32) = 1) = False := by decide +kernel
theorem ne_3_2 : ((3 : Int32) = 2) = False := by decide +kernel
theorem ne_3_4 : ((3 : Int32) = 4) = False := by decide +kernel
theorem ne_3_5 : ((3 : Int32) = 5) = False := by decide +kernel
theorem ne_3_6 : ((3 : Int32) = 6) = False := by decide +kernel
theorem ne_3_7 : ((3 : Int32) = 7) = False := by decide +kernel
theorem ne_3_8 : ((3 : Int32) = 8) = False := by decide +kernel
theorem ne_3_9 : ((3 : Int32) = 9) = False := by decide +kernel
theorem ne_4_m100 : ((4 : Int32) = -100) = False := by decide +kernel
theorem ne_4_m2 : ((4 : Int32) = -2) = False := by decide +kernel
theorem ne_4_m1 : ((4 : Int32) = -1) = False := by decide +kernel
theorem ne_4_0 : ((4 : Int32) = 0) = False := by decide +kernel
theorem ne_4_1 : ((4 : Int32) = 1) = False := by decide +kernel
theorem ne_4_2 : ((4 : Int32) = 2) = False := by decide +kernel
theorem ne_4_3 : ((4 : Int32) = 3) = False := by decide +kernel
theorem ne_4_5 : ((4 : Int32) = 5) = False := by decide +kernel
theorem ne_4_6 : ((4 : Int32) = 6) = False := by decide +kernel
theorem ne_4_7 : ((4 : Int32) = 7) = False := by decide +kernel
theorem ne_4_8 : ((4 : Int32) = 8) = False := by decide +kernel
theorem ne_4_9 : ((4 : Int32) = 9) = False := by decide +kernel
theorem ne_5_m100 : ((5 : Int32) = -100) = False := by decide +kernel
theorem ne_5_m2 : ((5 : Int32) = -2) = False := by decide +kernel
theorem ne_5_m1 : ((5 : Int32) = -1) = False := by decide +kernel
theorem ne_5_0 : ((5 : Int32) = 0) = False := by decide +kernel
theorem ne_5_1 : ((5 : Int32) = 1) = False := by decide +kernel
theorem ne_5_2 : ((5 : Int32) = 2) = False := by decide +kernel
theorem ne_5_3 : ((5 : Int32) = 3) = False := by decide +kernel
theorem ne_5_4 : ((5 : Int32) = 4) = False := by decide +kernel
theorem ne_5_6 : ((5 : Int32) = 6) = False := by decide +kernel
theorem ne_5_7 : ((5 : Int32) = 7) = False := by decide +kernel
theorem ne_5_8 : ((5 : Int32) = 8) = False := by decide +kernel
theorem ne_5_9 : ((5 : Int32) = 9) = False := by decide +kernel
theorem ne_6_m100 : ((6 : Int32) = -100) = False := by decide +kernel
theorem ne_6_m2 : ((6 : Int32) = -2) = False := by decide +kernel
theorem ne_6_m1 : ((6 : Int32) = -1) = False := by decide +kernel
theorem ne_6_0 : ((6 : Int32) = 0) = False := by decide +kernel
theorem ne_6_1 : ((6 : Int32) = 1) = False := by decide +kernel
theorem ne_6_2 : ((6 : Int32) = 2) = False := by decide +kernel
theorem ne_6_3 : ((6 : Int32) = 3) = False := by decide +kernel
theorem ne_6_4 : ((6 : Int32) = 4) = False := by decide +kernel
theorem ne_6_5 : ((6 : Int32) = 5) = False := by decide +kernel
theorem ne_6_7 : ((6 : Int32) = 7) = False := by decide +kernel
theorem ne_6_8 : ((6 : Int32) = 8) = False := by decide +kernel
theorem ne_6_9 : ((6 : Int32) = 9) = False := by decide +kernel
theorem ne_7_m100 : ((7 : Int32) = -100) = False := by decide +kernel
theorem ne_7_m2 : ((7 : Int32) = -2) = False := by decide +kernel
theorem ne_7_m1 : ((7 : Int32) = -1) = False := by decide +kernel
theorem ne_7_0 : ((7 : Int32) = 0) = False := by decide +kernel
theorem ne_7_1 : ((7 : Int32) = 1) = False := by decide +kernel
theorem ne_7_2 : ((7 : Int32) = 2) = False := by decide +kernel
theorem ne_7_3 : ((7 : Int32) = 3) = False := by decide +kernel
theorem ne_7_4 : ((7 : Int32) = 4) = False := by decide +kernel
theorem ne_7_5 : ((7 : Int32) = 5) = False := by decide +kernel
theorem ne_7_6 : ((7 : Int32) = 6) = False := by decide +kernel
theorem ne_7_8 : ((7 : Int32) = 8) = False := by decide +kernel
theorem ne_7_9 : ((7 : Int32) = 9) = False := by decide +kernel
theorem ne_8_m100 : ((8 : Int32) = -100) = False := by decide +kernel
theorem ne_8_m2 : ((8 : Int32) = -2) = False := by decide +kernel
theorem ne_8_m1 : ((8 : Int32) = -1) = False := by decide +kernel
theorem ne_8_0 : ((8 : Int32) = 0) = False := by decide +kernel
theorem ne_8_1 : ((8 : Int32) = 1) = False := by decide +kernel
theorem ne_8_2 : ((8 : Int32) = 2) = False := by decide +kernel
theorem ne_8_3 : ((8 : Int32) = 3) = False := by decide +kernel
theorem ne_8_4 : ((8 : Int32) = 4) = False := by decide +kernel
theorem ne_8_5 : ((8 : Int32) = 5) = False := by decide +kernel
theorem ne_8_6 : ((8 : Int32) = 6) = False := by decide +kernel
theorem ne_8_7 : ((8 : Int32) = 7) = False := by decide +kernel
theorem ne_8_9 : ((8 : Int32) = 9) = False := by decide +kernel
theorem ne_9_m100 : ((9 : Int32) = -100) = False := by decide +kernel
theorem ne_9_m2 : ((9 : Int32) = -2) = False := by decide +kernel
theorem ne_9_m1 : ((9 : Int32) = -1) = False := by decide +kernel
theorem ne_9_0 : ((9 : Int32) = 0) = False := by decide +kernel
theorem ne_9_1 : ((9 : Int32) = 1) = False := by decide +kernel
theorem ne_9_2 : ((9 : Int32) = 2) = False := by decide +kernel
theorem ne_9_3 : ((9 : Int32) = 3) = False := by decide +kernel
theorem ne_9_4 : ((9 : Int32) = 4) = False := by decide +kernel
theorem ne_9_5 : ((9 : Int32) = 5) = False := by decide +kernel
theorem ne_9_6 : ((9 : Int32) = 6) = False := by decide +kernel
theorem ne_9_7 : ((9 : Int32) = 7) = False := by decide +kernel
theorem ne_9_8 : ((9 : Int32) = 8) = False := by decide +kernel
theorem an_0 : (0 : Int32) &&& 31 = 0 := by decide +kernel
theorem an_1 : (1 : Int32) &&& 31 = 1 := by decide +kernel
theorem an_2 : (2 : Int32) &&& 31 = 2 := by decide +kernel
theorem an_3 : (3 : Int32) &&& 31 = 3 := by decide +kernel
theorem an_4 : (4 : Int32) &&& 31 = 4 := by decide +kernel
theorem an_5 : (5 : Int32) &&& 31 = 5 := by decide +kernel
theorem an_6 : (6 : Int32) &&& 31 = 6 := by decide +kernel
theorem an_7 : (7 : Int32) &&& 31 = 7 := by decide +kernel
theorem an_8 : (8 : Int32) &&& 31 = 8 := by decide +kernel
theorem an_9 : (9 : Int32) &&& 31 = 9 := by decide +kernel
theorem an_10 : (10 : Int32) &&& 31 = 10 := by decide +kernel
theorem an_11 : (11 : Int32) &&& 31 = 11 := by decide +kernel
theorem an_12 : (12 : Int32) &&& 31 = 12 := by decide +kernel
theorem an_13 : (13 : Int32) &&& 31 = 13 := by decide +kernel
theorem an_14 : (14 : Int32) &&& 31 = 14 := by decide +kernel
theorem an_15 : (15 : Int32) &&& 31 = 15 := by decide +kernel
theorem an_16 : (16 : Int32) &&& 31 = 16 := by decide +kernel
theorem an_17 : (17 : Int32) &&& 31 = 17 := by decide +kernel
theorem an_18 : (18 : Int32) &&& 31 = 18 := by decide +kernel
theorem an_19 : (19 : Int32) &&& 31 = 19 := by decide +kernel
theorem an_20 : (20 : Int32) &&& 31 = 20 := by decide +kernel
theorem an_21 : (21 : Int32) &&& 31 = 21 := by decide +kernel
theorem an_22 : (22 : Int32) &&& 31 = 22 := by decide +kernel
theorem an_23 : (23 : Int32) &&& 31 = 23 := by decide +kernel
theorem an_24 : (24 : Int32) &&& 31 = 24 := by decide +kernel
theorem an_25 : (25 : Int32) &&& 31 = 25 := by decide +kernel
theorem an_26 : (26 : Int32) &&& 31 = 26 := by decide +kernel
theorem an_27 : (27 : Int32) &&& 31 = 27 := by decide +kernel
theorem an_28 : (28 : Int32) &&& 31 = 28 := by decide +kernel
theorem an_29 : (29 : Int32) &&& 31 = 29 := by decide +kernel
theorem an_30 : (30 : Int32) &&& 31 = 30 := by decide +kernel
theorem an_31 : (31 : Int32) &&& 31 = 31 := by decide +kernel
