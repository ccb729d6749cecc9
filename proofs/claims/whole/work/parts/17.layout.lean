/-! the cells behind the constructors: shapes and references -/
def SH : cp_H := [(13, 14), (1, 900), (11, 17), (2, 6), (0, 6), (0, 6), (0, 36), (0, 4), (0, 4), (0, 4), (0, 4), (0, 4), (9, 7), (10, 5), (1, 0), (3, 8), (11, 17), (2, 6), (0, 6), (0, 6), (0, 36), (0, 4), (0, 4), (0, 4), (0, 4), (0, 4), (0, 6), (0, 6), (0, 64), (0, 64), (5, 9), (0, 16), (0, 16), (0, 16), (0, 3), (0, 3), (0, 3), (4, 0), (8, 1), (0, 6), (6, 2), (0, 6), (7, 0), (12, 1), (14, 41), (0, 900), (0, 8), (0, 138), (0, 138), (0, 39), (0, 624), (0, 117), (0, 6), (0, 6), (0, 6), (0, 6), (0, 39), (0, 4), (0, 6), (2, 1)]
theorem sh_0 : cp_sh SH 0 = (13, 14) := rfl
theorem sh_1 : cp_sh SH 1 = (1, 900) := rfl
theorem sh_2 : cp_sh SH 2 = (11, 17) := rfl
theorem sh_3 : cp_sh SH 3 = (2, 6) := rfl
theorem sh_4 : cp_sh SH 4 = (0, 6) := rfl
theorem sh_5 : cp_sh SH 5 = (0, 6) := rfl
theorem sh_6 : cp_sh SH 6 = (0, 36) := rfl
theorem sh_7 : cp_sh SH 7 = (0, 4) := rfl
theorem sh_8 : cp_sh SH 8 = (0, 4) := rfl
theorem sh_9 : cp_sh SH 9 = (0, 4) := rfl
theorem sh_10 : cp_sh SH 10 = (0, 4) := rfl
theorem sh_11 : cp_sh SH 11 = (0, 4) := rfl
theorem sh_12 : cp_sh SH 12 = (9, 7) := rfl
theorem sh_13 : cp_sh SH 13 = (10, 5) := rfl
theorem sh_14 : cp_sh SH 14 = (1, 0) := rfl
theorem sh_15 : cp_sh SH 15 = (3, 8) := rfl
theorem sh_16 : cp_sh SH 16 = (11, 17) := rfl
theorem sh_17 : cp_sh SH 17 = (2, 6) := rfl
theorem sh_18 : cp_sh SH 18 = (0, 6) := rfl
theorem sh_19 : cp_sh SH 19 = (0, 6) := rfl
theorem sh_20 : cp_sh SH 20 = (0, 36) := rfl
theorem sh_21 : cp_sh SH 21 = (0, 4) := rfl
theorem sh_22 : cp_sh SH 22 = (0, 4) := rfl
theorem sh_23 : cp_sh SH 23 = (0, 4) := rfl
theorem sh_24 : cp_sh SH 24 = (0, 4) := rfl
theorem sh_25 : cp_sh SH 25 = (0, 4) := rfl
theorem sh_26 : cp_sh SH 26 = (0, 6) := rfl
theorem sh_27 : cp_sh SH 27 = (0, 6) := rfl
theorem sh_28 : cp_sh SH 28 = (0, 64) := rfl
theorem sh_29 : cp_sh SH 29 = (0, 64) := rfl
theorem sh_30 : cp_sh SH 30 = (5, 9) := rfl
theorem sh_31 : cp_sh SH 31 = (0, 16) := rfl
theorem sh_32 : cp_sh SH 32 = (0, 16) := rfl
theorem sh_33 : cp_sh SH 33 = (0, 16) := rfl
theorem sh_34 : cp_sh SH 34 = (0, 3) := rfl
theorem sh_35 : cp_sh SH 35 = (0, 3) := rfl
theorem sh_36 : cp_sh SH 36 = (0, 3) := rfl
theorem sh_37 : cp_sh SH 37 = (4, 0) := rfl
theorem sh_38 : cp_sh SH 38 = (8, 1) := rfl
theorem sh_39 : cp_sh SH 39 = (0, 6) := rfl
theorem sh_40 : cp_sh SH 40 = (6, 2) := rfl
theorem sh_41 : cp_sh SH 41 = (0, 6) := rfl
theorem sh_42 : cp_sh SH 42 = (7, 0) := rfl
theorem sh_43 : cp_sh SH 43 = (12, 1) := rfl
theorem sh_44 : cp_sh SH 44 = (14, 41) := rfl
theorem sh_45 : cp_sh SH 45 = (0, 900) := rfl
theorem sh_46 : cp_sh SH 46 = (0, 8) := rfl
theorem sh_47 : cp_sh SH 47 = (0, 138) := rfl
theorem sh_48 : cp_sh SH 48 = (0, 138) := rfl
theorem sh_49 : cp_sh SH 49 = (0, 39) := rfl
theorem sh_50 : cp_sh SH 50 = (0, 624) := rfl
theorem sh_51 : cp_sh SH 51 = (0, 117) := rfl
theorem sh_52 : cp_sh SH 52 = (0, 6) := rfl
theorem sh_53 : cp_sh SH 53 = (0, 6) := rfl
theorem sh_54 : cp_sh SH 54 = (0, 6) := rfl
theorem sh_55 : cp_sh SH 55 = (0, 6) := rfl
theorem sh_56 : cp_sh SH 56 = (0, 39) := rfl
theorem sh_57 : cp_sh SH 57 = (0, 4) := rfl
theorem sh_58 : cp_sh SH 58 = (0, 6) := rfl
theorem sh_59 : cp_sh SH 59 = (2, 1) := rfl
def cp_lk : List (Nat × Nat × Nat) → Nat → Nat → Value
  | [], _, _ => .null
  | (a, k, c) :: l, b, j => if b = a ∧ j = k then .ref c else cp_lk l b j
def cp_rl : List (Nat × Nat × Nat) := [(0, 0, 1), (0, 6, 12), (0, 7, 15), (0, 8, 30), (0, 9, 37), (0, 10, 38), (0, 11, 40), (0, 12, 42), (0, 13, 43), (2, 8, 3), (2, 9, 4), (2, 10, 5), (2, 11, 6), (2, 12, 7), (2, 13, 8), (2, 14, 9), (2, 15, 10), (2, 16, 11), (12, 0, 13), (15, 4, 26), (15, 5, 27), (15, 6, 28), (15, 7, 29), (16, 8, 17), (16, 9, 18), (16, 10, 19), (16, 11, 20), (16, 12, 21), (16, 13, 22), (16, 14, 23), (16, 15, 24), (16, 16, 25), (30, 0, 31), (30, 1, 32), (30, 2, 33), (30, 3, 34), (30, 4, 35), (30, 5, 36), (38, 0, 39), (40, 0, 41), (44, 1, 45), (44, 12, 46), (44, 15, 47), (44, 16, 48), (44, 17, 49), (44, 18, 50), (44, 19, 51), (44, 23, 52), (44, 24, 53), (44, 25, 54), (44, 26, 55), (44, 28, 56), (44, 30, 57), (44, 39, 58)]
/-- the text read (t), the other one (u), the reader's (r), the bytes that the tokens have (x) -/
def PP (t u r x : Nat) : cp_P := fun a k => if a = 15 ∧ k = 0 then .ref t else if a = 0 ∧ k = 5 then .ref u else if a = 12 ∧ k = 1 then .ref r else if a = 13 ∧ k = 0 then .ref x else cp_lk cp_rl a k
theorem pp_0_0 (t u r x : Nat) : PP t u r x 0 0 = .ref 1 := rfl
theorem pp_0_6 (t u r x : Nat) : PP t u r x 0 6 = .ref 12 := rfl
theorem pp_0_7 (t u r x : Nat) : PP t u r x 0 7 = .ref 15 := rfl
theorem pp_0_8 (t u r x : Nat) : PP t u r x 0 8 = .ref 30 := rfl
theorem pp_0_9 (t u r x : Nat) : PP t u r x 0 9 = .ref 37 := rfl
theorem pp_0_10 (t u r x : Nat) : PP t u r x 0 10 = .ref 38 := rfl
theorem pp_0_11 (t u r x : Nat) : PP t u r x 0 11 = .ref 40 := rfl
theorem pp_0_12 (t u r x : Nat) : PP t u r x 0 12 = .ref 42 := rfl
theorem pp_0_13 (t u r x : Nat) : PP t u r x 0 13 = .ref 43 := rfl
theorem pp_2_8 (t u r x : Nat) : PP t u r x 2 8 = .ref 3 := rfl
theorem pp_2_9 (t u r x : Nat) : PP t u r x 2 9 = .ref 4 := rfl
theorem pp_2_10 (t u r x : Nat) : PP t u r x 2 10 = .ref 5 := rfl
theorem pp_2_11 (t u r x : Nat) : PP t u r x 2 11 = .ref 6 := rfl
theorem pp_2_12 (t u r x : Nat) : PP t u r x 2 12 = .ref 7 := rfl
theorem pp_2_13 (t u r x : Nat) : PP t u r x 2 13 = .ref 8 := rfl
theorem pp_2_14 (t u r x : Nat) : PP t u r x 2 14 = .ref 9 := rfl
theorem pp_2_15 (t u r x : Nat) : PP t u r x 2 15 = .ref 10 := rfl
theorem pp_2_16 (t u r x : Nat) : PP t u r x 2 16 = .ref 11 := rfl
theorem pp_12_0 (t u r x : Nat) : PP t u r x 12 0 = .ref 13 := rfl
theorem pp_15_4 (t u r x : Nat) : PP t u r x 15 4 = .ref 26 := rfl
theorem pp_15_5 (t u r x : Nat) : PP t u r x 15 5 = .ref 27 := rfl
theorem pp_15_6 (t u r x : Nat) : PP t u r x 15 6 = .ref 28 := rfl
theorem pp_15_7 (t u r x : Nat) : PP t u r x 15 7 = .ref 29 := rfl
theorem pp_16_8 (t u r x : Nat) : PP t u r x 16 8 = .ref 17 := rfl
theorem pp_16_9 (t u r x : Nat) : PP t u r x 16 9 = .ref 18 := rfl
theorem pp_16_10 (t u r x : Nat) : PP t u r x 16 10 = .ref 19 := rfl
theorem pp_16_11 (t u r x : Nat) : PP t u r x 16 11 = .ref 20 := rfl
theorem pp_16_12 (t u r x : Nat) : PP t u r x 16 12 = .ref 21 := rfl
theorem pp_16_13 (t u r x : Nat) : PP t u r x 16 13 = .ref 22 := rfl
theorem pp_16_14 (t u r x : Nat) : PP t u r x 16 14 = .ref 23 := rfl
theorem pp_16_15 (t u r x : Nat) : PP t u r x 16 15 = .ref 24 := rfl
theorem pp_16_16 (t u r x : Nat) : PP t u r x 16 16 = .ref 25 := rfl
theorem pp_30_0 (t u r x : Nat) : PP t u r x 30 0 = .ref 31 := rfl
theorem pp_30_1 (t u r x : Nat) : PP t u r x 30 1 = .ref 32 := rfl
theorem pp_30_2 (t u r x : Nat) : PP t u r x 30 2 = .ref 33 := rfl
theorem pp_30_3 (t u r x : Nat) : PP t u r x 30 3 = .ref 34 := rfl
theorem pp_30_4 (t u r x : Nat) : PP t u r x 30 4 = .ref 35 := rfl
theorem pp_30_5 (t u r x : Nat) : PP t u r x 30 5 = .ref 36 := rfl
theorem pp_38_0 (t u r x : Nat) : PP t u r x 38 0 = .ref 39 := rfl
theorem pp_40_0 (t u r x : Nat) : PP t u r x 40 0 = .ref 41 := rfl
theorem pp_44_1 (t u r x : Nat) : PP t u r x 44 1 = .ref 45 := rfl
theorem pp_44_12 (t u r x : Nat) : PP t u r x 44 12 = .ref 46 := rfl
theorem pp_44_15 (t u r x : Nat) : PP t u r x 44 15 = .ref 47 := rfl
theorem pp_44_16 (t u r x : Nat) : PP t u r x 44 16 = .ref 48 := rfl
theorem pp_44_17 (t u r x : Nat) : PP t u r x 44 17 = .ref 49 := rfl
theorem pp_44_18 (t u r x : Nat) : PP t u r x 44 18 = .ref 50 := rfl
theorem pp_44_19 (t u r x : Nat) : PP t u r x 44 19 = .ref 51 := rfl
theorem pp_44_23 (t u r x : Nat) : PP t u r x 44 23 = .ref 52 := rfl
theorem pp_44_24 (t u r x : Nat) : PP t u r x 44 24 = .ref 53 := rfl
theorem pp_44_25 (t u r x : Nat) : PP t u r x 44 25 = .ref 54 := rfl
theorem pp_44_26 (t u r x : Nat) : PP t u r x 44 26 = .ref 55 := rfl
theorem pp_44_28 (t u r x : Nat) : PP t u r x 44 28 = .ref 56 := rfl
theorem pp_44_30 (t u r x : Nat) : PP t u r x 44 30 = .ref 57 := rfl
theorem pp_44_39 (t u r x : Nat) : PP t u r x 44 39 = .ref 58 := rfl
theorem pp_15_0 (t u r x : Nat) : PP t u r x 15 0 = .ref t := rfl
theorem pp_0_5 (t u r x : Nat) : PP t u r x 0 5 = .ref u := rfl
theorem pp_12_1 (t u r x : Nat) : PP t u r x 12 1 = .ref r := rfl
theorem pp_13_0 (t u r x : Nat) : PP t u r x 13 0 = .ref x := rfl
theorem pu_t (t u r x v : Nat) : cp_u (PP t u r x) 15 0 (.ref v) = PP v u r x := by
  funext b j
  by_cases h : b = 15 ∧ j = 0
  · simp [cp_u, PP, h]
  · simp [cp_u, PP, h]
theorem pu_u (t u r x v : Nat) : cp_u (PP t u r x) 0 5 (.ref v) = PP t v r x := by
  funext b j
  by_cases h : b = 0 ∧ j = 5
  · simp [cp_u, PP, h]
  · simp [cp_u, PP, h]
theorem pu_r (t u r x v : Nat) : cp_u (PP t u r x) 12 1 (.ref v) = PP t u v x := by
  funext b j
  by_cases h : b = 12 ∧ j = 1
  · simp [cp_u, PP, h]
  · simp [cp_u, PP, h]
theorem pu_x (t u r x v : Nat) : cp_u (PP t u r x) 13 0 (.ref v) = PP t u r v := by
  funext b j
  by_cases h : b = 13 ∧ j = 0
  · simp [cp_u, PP, h]
  · simp [cp_u, PP, h]
/-- one of the two texts -/
def isT (t : Nat) : Prop := t = 2 ∨ t = 16
theorem st_0 {t : Nat} (h : isT t) : cp_sh SH t = (11, 17) := by rcases h with rfl | rfl <;> rfl
theorem st_1 {t : Nat} (h : isT t) : cp_sh SH (t + 1) = (2, 6) := by rcases h with rfl | rfl <;> rfl
theorem st_2 {t : Nat} (h : isT t) : cp_sh SH (t + 2) = (0, 6) := by rcases h with rfl | rfl <;> rfl
theorem st_3 {t : Nat} (h : isT t) : cp_sh SH (t + 3) = (0, 6) := by rcases h with rfl | rfl <;> rfl
theorem st_4 {t : Nat} (h : isT t) : cp_sh SH (t + 4) = (0, 36) := by rcases h with rfl | rfl <;> rfl
theorem st_5 {t : Nat} (h : isT t) : cp_sh SH (t + 5) = (0, 4) := by rcases h with rfl | rfl <;> rfl
theorem st_6 {t : Nat} (h : isT t) : cp_sh SH (t + 6) = (0, 4) := by rcases h with rfl | rfl <;> rfl
theorem st_7 {t : Nat} (h : isT t) : cp_sh SH (t + 7) = (0, 4) := by rcases h with rfl | rfl <;> rfl
theorem st_8 {t : Nat} (h : isT t) : cp_sh SH (t + 8) = (0, 4) := by rcases h with rfl | rfl <;> rfl
theorem st_9 {t : Nat} (h : isT t) : cp_sh SH (t + 9) = (0, 4) := by rcases h with rfl | rfl <;> rfl
theorem tp_8 {t t2 u r x : Nat} (h : isT t) : PP t2 u r x t 8 = .ref (t + 1) := by rcases h with rfl | rfl <;> rfl
theorem tp_9 {t t2 u r x : Nat} (h : isT t) : PP t2 u r x t 9 = .ref (t + 2) := by rcases h with rfl | rfl <;> rfl
theorem tp_10 {t t2 u r x : Nat} (h : isT t) : PP t2 u r x t 10 = .ref (t + 3) := by rcases h with rfl | rfl <;> rfl
theorem tp_11 {t t2 u r x : Nat} (h : isT t) : PP t2 u r x t 11 = .ref (t + 4) := by rcases h with rfl | rfl <;> rfl
theorem tp_12 {t t2 u r x : Nat} (h : isT t) : PP t2 u r x t 12 = .ref (t + 5) := by rcases h with rfl | rfl <;> rfl
theorem tp_13 {t t2 u r x : Nat} (h : isT t) : PP t2 u r x t 13 = .ref (t + 6) := by rcases h with rfl | rfl <;> rfl
theorem tp_14 {t t2 u r x : Nat} (h : isT t) : PP t2 u r x t 14 = .ref (t + 7) := by rcases h with rfl | rfl <;> rfl
theorem tp_15 {t t2 u r x : Nat} (h : isT t) : PP t2 u r x t 15 = .ref (t + 8) := by rcases h with rfl | rfl <;> rfl
theorem tp_16 {t t2 u r x : Nat} (h : isT t) : PP t2 u r x t 16 = .ref (t + 9) := by rcases h with rfl | rfl <;> rfl
