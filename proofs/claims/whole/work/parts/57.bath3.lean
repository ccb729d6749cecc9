section Bath3
variable {g : cp_G} {d : Nat} {sh : cp_H} {I : cp_I} {J : cp_J} {P : cp_P} {Q : cp_QT} {t u r x n : Nat}
theorem c_Bath_sort {b m : Nat} (hc : cT I t n) (hb : b < n) (hm : I 15 2 = nI m) (h : ∀ M', (∀ c j, ¬ (c = 26 ∧ j = b) → ¬ (c = 27 ∧ j = b) → M' c j = I c j) → M' 26 b = nI (cK I t n m b) → M' 27 b = nI (cF I t n m b) → Q none SH M' J (PP t u r x)) : MW g false (d + 3) 0 0 m_Bath_sortTies [.ref 15, .int (nI b)] SH I J (PP t u r x) Q := by
  obtain ⟨ht, hn6, hn, he⟩ := id hc
  have hM : mF I (cp_u (cp_u I 26 b 0) 27 b 0) := mF_u (mF_u (mF_refl I) (by omega)) (by omega)
  refine MW.of ok_Bath_sortTies (Nat.le_of_ble_eq_true rfl) ?_
  refine cp_run 40 (fun t => t == 16) ck_Bath_sortTies ?_
  simp only [cp_vc, cp_vs, cp_jm, cp_ent_en, cp_en_int, cp_en_ref, cp_en_ret, cp_en_long, cp_en_nil, cp_s1_at, cp_s2_at, cp_nl_int, cp_nl_ref, cp_nl_long, cp_nl_none, cp_pop_0, cp_pop_s, reduceIte, if_true, if_false, Bool.false_eq_true, Bool.true_eq_false, false_implies, implies_true, forall_const, true_implies, true_and, and_true, and_self, true_or, or_true, false_or, or_false, Value.category, List.length_cons, List.length_nil, Option.toList_some, Option.toList_none, List.cons_append, List.nil_append, List.append_nil, Prod.mk.injEq, Nat.add_zero, Nat.zero_add, Nat.reduceAdd, Nat.reduceSub, Nat.reduceEqDiff, Nat.reduceLeDiff, Nat.reduceLT, Nat.le_refl, beq_self_eq_true, Nat.reduceBEq, ne_eq, not_true_eq_false, not_false_eq_true, Int32.reduceAdd, Int32.reduceSub, Int32.reduceMul, Int32.reduceLE, Int32.reduceLT, Int32.reduceToNatClampNeg, b01_0, b01_1, ne_2_0, ne_3_0, ne_4_0, ne_5_0, ne_6_0, ne_m1_0, ne_m2_0, b01_01, b01_n, lt_m2, lt_m1, le_m2, le_m1, Classical.not_not, j_Bath_sortTies_0, b_Bath_sortTies_0, j_Bath_sortTies_16, b_Bath_sortTies_16, j_Bath_sortTies_36, b_Bath_sortTies_36, j_Bath_sortTies_42, b_Bath_sortTies_42, j_Bath_sortTies_62, b_Bath_sortTies_62, j_Bath_sortTies_78, b_Bath_sortTies_78, j_Bath_sortTies_84, b_Bath_sortTies_84, an_0, an_1, cl_0, cl_1, ne_0_1, ne_1_0, pp_15_0, pp_15_4, pp_15_5, sh_15, sh_26, sh_27, vi_0, vi_1, vin (show b < 6 by omega) (by omega), ncl (show b < 1000 by omega)]
  refine lp_Bath_sort hc hb hm n 0 0 0 _ _ (by omega) (by omega) (by omega) hM ?_ ?_ ?_ ?_ ?_ ?_ h
  · simp [cp_u_at, nI_0]
  · simp [cp_u_at, nI_0]
  · intro c j h1 h2
    rw [cp_u_at, if_neg h2, cp_u_at, if_neg h1]
  · simp [cp_s1_at, cp_ent_en, cp_en_ref, cp_nl_ref]
  · simp [cp_s1_at, cp_ent_en, cp_en_ref, cp_en_int, cp_nl_int]
  · simp [cp_s1_at, nI_0]
/-- the measures up to b -/
def bUp (I M : cp_I) (t n m b : Nat) : Prop := (∀ i, i < b → M 26 i = nI (cK I t n m i) ∧ M 27 i = nI (cF I t n m i)) ∧ ∀ s, s < 2 ^ b → M 28 s = sp_sum n (I t 1) (ctm I t m) s (I t 0) ∧ M 29 s = fo (sp_gr (cn I t) s) n 0 0
theorem max_gr (a b : Int32) : (if a < b then b else a) = if b ≤ a then a else b := by
  by_cases h : a < b
  · have : ¬ b ≤ a := by rw [Int32.lt_iff_toInt_lt] at h; rw [Int32.le_iff_toInt_le]; omega
    rw [if_pos h, if_neg this]
  · have : b ≤ a := by rw [Int32.lt_iff_toInt_lt] at h; rw [Int32.le_iff_toInt_le]; omega
    rw [if_neg h, if_pos this]
theorem lp_Bath_measure_44 {b m : Nat} (hc : cT I t n) (hb : b < n) (hm : I 15 2 = nI m) (h : ∀ (M : cp_I) (L : cp_Lo), L 0 = some (.ref 15) → L 1 = some (.int (nI b)) → mF I M → bUp I M t n m (b + 1) → RW g false (d + 4) 0 0 m_Bath_measure 0 0 101 L [] SH M J (PP t u r x) Q) :
    ∀ (k o : Nat) (M : cp_I) (L : cp_Lo), o + k = 2 ^ b → L 0 = some (.ref 15) → L 1 = some (.int (nI b)) → L 2 = some (.int (nI (2 ^ b))) → L 3 = some (.int (nI o)) → mF I M → (∀ i, i < b + 1 → M 26 i = nI (cK I t n m i) ∧ M 27 i = nI (cF I t n m i)) → (∀ s, s < 2 ^ b + o → M 28 s = sp_sum n (I t 1) (ctm I t m) s (I t 0) ∧ M 29 s = fo (sp_gr (cn I t) s) n 0 0) → RW g false (d + 4) 0 0 m_Bath_measure 0 0 44 L [] SH M J (PP t u r x) Q := by
  obtain ⟨ht, hn6, hn, he⟩ := id hc
  have hp6 := pow_lt64 (show b < 6 by omega)
  have hps : 2 ^ (b + 1) = 2 ^ b + 2 ^ b := by rw [Nat.pow_succ]; omega
  have hp32 : 2 ^ b ≤ 32 := by
    have : 2 ^ b ≤ 2 ^ 5 := Nat.pow_le_pow_right (by omega) (by omega)
    omega
  intro k
  induction k with
  | zero =>
    intro o M L ho l0 l1 l2 l3 hM hK hS
    have c1 : nI (2 ^ b) ≤ nI o := nI_le (by omega) (by omega)
    refine cp_run 20 (fun t => t == 44 || t == 101) ck_Bath_measure ?_
    simp only [cp_vc, cp_vs, cp_jm, cp_ent_en, cp_en_int, cp_en_ref, cp_en_ret, cp_en_long, cp_en_nil, cp_s1_at, cp_s2_at, cp_nl_int, cp_nl_ref, cp_nl_long, cp_nl_none, cp_pop_0, cp_pop_s, reduceIte, if_true, if_false, Bool.false_eq_true, Bool.true_eq_false, false_implies, implies_true, forall_const, true_implies, true_and, and_true, and_self, true_or, or_true, false_or, or_false, Value.category, List.length_cons, List.length_nil, Option.toList_some, Option.toList_none, List.cons_append, List.nil_append, List.append_nil, Prod.mk.injEq, Nat.add_zero, Nat.zero_add, Nat.reduceAdd, Nat.reduceSub, Nat.reduceEqDiff, Nat.reduceLeDiff, Nat.reduceLT, Nat.le_refl, beq_self_eq_true, Nat.reduceBEq, ne_eq, not_true_eq_false, not_false_eq_true, Int32.reduceAdd, Int32.reduceSub, Int32.reduceMul, Int32.reduceLE, Int32.reduceLT, Int32.reduceToNatClampNeg, b01_0, b01_1, ne_2_0, ne_3_0, ne_4_0, ne_5_0, ne_6_0, ne_m1_0, ne_m2_0, b01_01, b01_n, lt_m2, lt_m1, le_m2, le_m1, Classical.not_not, Bool.or_false, Bool.false_or, Bool.true_or, Bool.or_true, j_Bath_measure_0, b_Bath_measure_0, j_Bath_measure_22, b_Bath_measure_22, j_Bath_measure_44, b_Bath_measure_44, j_Bath_measure_101, b_Bath_measure_101, j_Bath_measure_107, b_Bath_measure_107, an_0, an_1, cl_0, cl_1, ne_0_1, ne_1_0, pp_15_0, pp_15_6, pp_15_7, sh_15, sh_28, sh_29, vi_0, vi_1, l0, l1, l2, l3, c1]
    exact h M L l0 l1 hM ⟨hK, fun s hs => hS s (by omega)⟩
  | succ k ih =>
    intro o M L ho l0 l1 l2 l3 hM hK hS
    have c1 : ¬ nI (2 ^ b) ≤ nI o := nI_ge (by omega) (by omega)
    have hob : o < 2 ^ b := by omega
    have hor : 2 ^ b ||| o = 2 ^ b + o := by
      have := Nat.two_pow_add_eq_or_of_lt hob 1
      rw [Nat.mul_one] at this
      exact this.symm
    have hmM : M 15 2 = nI m := by rw [hM 15 2 (by omega)]; exact hm
    have e28 := (hS o (by omega)).1
    have e29 := (hS o (by omega)).2
    refine cp_run 60 (fun t => t == 44 || t == 101) ck_Bath_measure ?_
    simp only [cp_vc, cp_vs, cp_jm, cp_ent_en, cp_en_int, cp_en_ref, cp_en_ret, cp_en_long, cp_en_nil, cp_s1_at, cp_s2_at, cp_nl_int, cp_nl_ref, cp_nl_long, cp_nl_none, cp_pop_0, cp_pop_s, reduceIte, if_true, if_false, Bool.false_eq_true, Bool.true_eq_false, false_implies, implies_true, forall_const, true_implies, true_and, and_true, and_self, true_or, or_true, false_or, or_false, Value.category, List.length_cons, List.length_nil, Option.toList_some, Option.toList_none, List.cons_append, List.nil_append, List.append_nil, Prod.mk.injEq, Nat.add_zero, Nat.zero_add, Nat.reduceAdd, Nat.reduceSub, Nat.reduceEqDiff, Nat.reduceLeDiff, Nat.reduceLT, Nat.le_refl, beq_self_eq_true, Nat.reduceBEq, ne_eq, not_true_eq_false, not_false_eq_true, Int32.reduceAdd, Int32.reduceSub, Int32.reduceMul, Int32.reduceLE, Int32.reduceLT, Int32.reduceToNatClampNeg, b01_0, b01_1, ne_2_0, ne_3_0, ne_4_0, ne_5_0, ne_6_0, ne_m1_0, ne_m2_0, b01_01, b01_n, lt_m2, lt_m1, le_m2, le_m1, Classical.not_not, Bool.or_false, Bool.false_or, Bool.true_or, Bool.or_true, j_Bath_measure_0, b_Bath_measure_0, j_Bath_measure_22, b_Bath_measure_22, j_Bath_measure_44, b_Bath_measure_44, j_Bath_measure_101, b_Bath_measure_101, j_Bath_measure_107, b_Bath_measure_107, an_0, an_1, cl_0, cl_1, ne_0_1, ne_1_0, pp_15_0, pp_15_6, pp_15_7, sh_15, sh_28, sh_29, vi_0, vi_1, l0, l1, l2, l3, c1, or_nI hp6 (show o < 64 by omega), hor, vin (show o < 64 by omega) (by omega), ncl (show o < 1000 by omega)]
    refine c_Bath_join (mF_cT hM hc) hb hob hmM ?_
    rw [mF_ctm hM ht, mF_0 hM ht, e28]
    have hM2 : mF I (cp_u M 28 (2 ^ b + o) (sp_sum n (I t 1) (ctm I t m) o (I t 0) + sp_jn (I t 1) (ctm I t m) b o n)) := mF_u hM (by omega)
    have e29' : cp_u M 28 (2 ^ b + o) (sp_sum n (I t 1) (ctm I t m) o (I t 0) + sp_jn (I t 1) (ctm I t m) b o n) 29 o = fo (sp_gr (cn I t) o) n 0 0 := by
      rw [cp_u_at, if_neg (by omega)]
      exact e29
    simp only [cp_kk, cp_vc, cp_vs, cp_jm, cp_ent_en, cp_en_int, cp_en_ref, cp_en_ret, cp_en_long, cp_en_nil, cp_s1_at, cp_s2_at, cp_nl_int, cp_nl_ref, cp_nl_long, cp_nl_none, cp_pop_0, cp_pop_s, reduceIte, if_true, if_false, Bool.false_eq_true, Bool.true_eq_false, false_implies, implies_true, forall_const, true_implies, true_and, and_true, and_self, true_or, or_true, false_or, or_false, Value.category, List.length_cons, List.length_nil, Option.toList_some, Option.toList_none, List.cons_append, List.nil_append, List.append_nil, Prod.mk.injEq, Nat.add_zero, Nat.zero_add, Nat.reduceAdd, Nat.reduceSub, Nat.reduceEqDiff, Nat.reduceLeDiff, Nat.reduceLT, Nat.le_refl, beq_self_eq_true, Nat.reduceBEq, ne_eq, not_true_eq_false, not_false_eq_true, Int32.reduceAdd, Int32.reduceSub, Int32.reduceMul, Int32.reduceLE, Int32.reduceLT, Int32.reduceToNatClampNeg, b01_0, b01_1, ne_2_0, ne_3_0, ne_4_0, ne_5_0, ne_6_0, ne_m1_0, ne_m2_0, b01_01, b01_n, lt_m2, lt_m1, le_m2, le_m1, Classical.not_not, Bool.or_false, Bool.false_or, Bool.true_or, Bool.or_true, j_Bath_measure_0, b_Bath_measure_0, j_Bath_measure_22, b_Bath_measure_22, j_Bath_measure_44, b_Bath_measure_44, j_Bath_measure_101, b_Bath_measure_101, j_Bath_measure_107, b_Bath_measure_107, an_0, an_1, cl_0, cl_1, ne_0_1, ne_1_0, pp_15_0, pp_15_6, pp_15_7, sh_15, sh_28, sh_29, vi_0, vi_1, l0, l1, l2, l3, or_nI hp6 (show o < 64 by omega), hor, vin (show o < 64 by omega) (by omega), ncl (show o < 1000 by omega), vin (show 2 ^ b + o < 64 by omega) (by omega), ncl (show 2 ^ b + o < 1000 by omega), e29', pp_15_0, sT0 ht, sT1 ht, sT2 ht, sT3 ht, sT4 ht, sT5 ht, sT6 ht, sT7 ht, sT8 ht, sT9 ht, pT1 ht, pT2 ht, pT3 ht, pT4 ht, pT5 ht, pT6 ht, pT7 ht, pT8 ht, pT9 ht]
    refine c_Told_needOf ht (by omega) ((mF_cT hM2 hc).2.2.2 b hb) ?_
    rw [mF_cn hM2 ht]
    simp only [cp_kk, cp_vc, cp_vs, cp_jm, cp_ent_en, cp_en_int, cp_en_ref, cp_en_ret, cp_en_long, cp_en_nil, cp_s1_at, cp_s2_at, cp_nl_int, cp_nl_ref, cp_nl_long, cp_nl_none, cp_pop_0, cp_pop_s, reduceIte, if_true, if_false, Bool.false_eq_true, Bool.true_eq_false, false_implies, implies_true, forall_const, true_implies, true_and, and_true, and_self, true_or, or_true, false_or, or_false, Value.category, List.length_cons, List.length_nil, Option.toList_some, Option.toList_none, List.cons_append, List.nil_append, List.append_nil, Prod.mk.injEq, Nat.add_zero, Nat.zero_add, Nat.reduceAdd, Nat.reduceSub, Nat.reduceEqDiff, Nat.reduceLeDiff, Nat.reduceLT, Nat.le_refl, beq_self_eq_true, Nat.reduceBEq, ne_eq, not_true_eq_false, not_false_eq_true, Int32.reduceAdd, Int32.reduceSub, Int32.reduceMul, Int32.reduceLE, Int32.reduceLT, Int32.reduceToNatClampNeg, b01_0, b01_1, ne_2_0, ne_3_0, ne_4_0, ne_5_0, ne_6_0, ne_m1_0, ne_m2_0, b01_01, b01_n, lt_m2, lt_m1, le_m2, le_m1, Classical.not_not, Bool.or_false, Bool.false_or, Bool.true_or, Bool.or_true, j_Bath_measure_0, b_Bath_measure_0, j_Bath_measure_22, b_Bath_measure_22, j_Bath_measure_44, b_Bath_measure_44, j_Bath_measure_101, b_Bath_measure_101, j_Bath_measure_107, b_Bath_measure_107, an_0, an_1, cl_0, cl_1, ne_0_1, ne_1_0, pp_15_0, pp_15_6, pp_15_7, sh_15, sh_28, sh_29, vi_0, vi_1, l0, l1, l2, l3, vin (show 2 ^ b + o < 64 by omega) (by omega), ncl (show 2 ^ b + o < 1000 by omega), nI_1]
    refine ih (o + 1) _ _ (by omega) ?_ ?_ ?_ ?_ (mF_u hM2 (by omega)) ?_ ?_
    · simp [cp_s1_at, cp_nl_ref, cp_nl_int, l0]
    · simp [cp_s1_at, cp_nl_ref, cp_nl_int, l1]
    · simp [cp_s1_at, cp_nl_ref, cp_nl_int, l2]
    · simp [cp_s1_at, cp_nl_ref, cp_nl_int]
    · intro i hi
      rw [cp_u_at, if_neg (by omega), cp_u_at, if_neg (by omega), cp_u_at, if_neg (by omega), cp_u_at, if_neg (by omega)]
      exact hK i hi
    · intro s hs
      by_cases e : s = 2 ^ b + o
      · rw [e, cp_u_at, if_neg (by omega), cp_u_at, if_pos ⟨rfl, rfl⟩, cp_u_at, if_pos ⟨rfl, rfl⟩, max_gr, ← hor, sum_join hb hob, gr_join hb hob]
        exact ⟨rfl, rfl⟩
      · rw [cp_u_at, if_neg (by omega), cp_u_at, if_neg (by omega), cp_u_at, if_neg (by omega), cp_u_at, if_neg (by omega)]
        exact hS s (by omega)
theorem bUp_c {M M' : cp_I} {m b : Nat} (h : bUp I M t n m b) (e : ∀ i, i < b → M' 26 i = M 26 i ∧ M' 27 i = M 27 i) (e' : ∀ c j, (c = 28 ∨ c = 29) → M' c j = M c j) : bUp I M' t n m b := by
  refine ⟨fun i hi => ?_, fun s hs => ?_⟩
  · rw [(e i hi).1, (e i hi).2]
    exact h.1 i hi
  · rw [e' 28 s (by omega), e' 29 s (by omega)]
    exact h.2 s hs
theorem lp_Bath_measure_22 {m : Nat} (hc : cT I t n) (hm : I 15 2 = nI m) (h : ∀ M : cp_I, mF I M → bUp I M t n m n → Q none SH M J (PP t u r x)) :
    ∀ (k b : Nat) (M : cp_I) (L : cp_Lo), b + k = n → L 0 = some (.ref 15) → L 1 = some (.int (nI b)) → mF I M → bUp I M t n m b → RW g false (d + 4) 0 0 m_Bath_measure 0 0 22 L [] SH M J (PP t u r x) Q := by
  obtain ⟨ht, hn6, hn, he⟩ := id hc
  intro k
  induction k with
  | zero =>
    intro b M L hb l0 l1 hM hU
    have c1 : nI n ≤ nI b := nI_le (by omega) (by omega)
    have hnM : M t 4 = nI n := by rw [mF_0 hM ht]; exact hn
    refine cp_run 20 (fun t => t == 22) ck_Bath_measure ?_
    simp only [cp_vc, cp_vs, cp_jm, cp_ent_en, cp_en_int, cp_en_ref, cp_en_ret, cp_en_long, cp_en_nil, cp_s1_at, cp_s2_at, cp_nl_int, cp_nl_ref, cp_nl_long, cp_nl_none, cp_pop_0, cp_pop_s, reduceIte, if_true, if_false, Bool.false_eq_true, Bool.true_eq_false, false_implies, implies_true, forall_const, true_implies, true_and, and_true, and_self, true_or, or_true, false_or, or_false, Value.category, List.length_cons, List.length_nil, Option.toList_some, Option.toList_none, List.cons_append, List.nil_append, List.append_nil, Prod.mk.injEq, Nat.add_zero, Nat.zero_add, Nat.reduceAdd, Nat.reduceSub, Nat.reduceEqDiff, Nat.reduceLeDiff, Nat.reduceLT, Nat.le_refl, beq_self_eq_true, Nat.reduceBEq, ne_eq, not_true_eq_false, not_false_eq_true, Int32.reduceAdd, Int32.reduceSub, Int32.reduceMul, Int32.reduceLE, Int32.reduceLT, Int32.reduceToNatClampNeg, b01_0, b01_1, ne_2_0, ne_3_0, ne_4_0, ne_5_0, ne_6_0, ne_m1_0, ne_m2_0, b01_01, b01_n, lt_m2, lt_m1, le_m2, le_m1, Classical.not_not, j_Bath_measure_0, b_Bath_measure_0, j_Bath_measure_22, b_Bath_measure_22, j_Bath_measure_44, b_Bath_measure_44, j_Bath_measure_101, b_Bath_measure_101, j_Bath_measure_107, b_Bath_measure_107, an_0, an_1, cl_0, cl_1, ne_0_1, ne_1_0, pp_15_0, pp_15_6, pp_15_7, sh_15, sh_28, sh_29, vi_0, vi_1, l0, l1, pp_15_0, sT0 ht, sT1 ht, sT2 ht, sT3 ht, sT4 ht, sT5 ht, sT6 ht, sT7 ht, sT8 ht, sT9 ht, pT1 ht, pT2 ht, pT3 ht, pT4 ht, pT5 ht, pT6 ht, pT7 ht, pT8 ht, pT9 ht, hnM, c1]
    rw [show b = n by omega] at hU
    exact h M hM hU
  | succ k ih =>
    intro b M L hb l0 l1 hM hU
    have c1 : ¬ nI n ≤ nI b := nI_ge (by omega) (by omega)
    have hnM : M t 4 = nI n := by rw [mF_0 hM ht]; exact hn
    have hmM : M 15 2 = nI m := by rw [hM 15 2 (by omega)]; exact hm
    have hbn : b < n := by omega
    refine cp_run 40 (fun t => t == 22 || t == 44) ck_Bath_measure ?_
    simp only [cp_vc, cp_vs, cp_jm, cp_ent_en, cp_en_int, cp_en_ref, cp_en_ret, cp_en_long, cp_en_nil, cp_s1_at, cp_s2_at, cp_nl_int, cp_nl_ref, cp_nl_long, cp_nl_none, cp_pop_0, cp_pop_s, reduceIte, if_true, if_false, Bool.false_eq_true, Bool.true_eq_false, false_implies, implies_true, forall_const, true_implies, true_and, and_true, and_self, true_or, or_true, false_or, or_false, Value.category, List.length_cons, List.length_nil, Option.toList_some, Option.toList_none, List.cons_append, List.nil_append, List.append_nil, Prod.mk.injEq, Nat.add_zero, Nat.zero_add, Nat.reduceAdd, Nat.reduceSub, Nat.reduceEqDiff, Nat.reduceLeDiff, Nat.reduceLT, Nat.le_refl, beq_self_eq_true, Nat.reduceBEq, ne_eq, not_true_eq_false, not_false_eq_true, Int32.reduceAdd, Int32.reduceSub, Int32.reduceMul, Int32.reduceLE, Int32.reduceLT, Int32.reduceToNatClampNeg, b01_0, b01_1, ne_2_0, ne_3_0, ne_4_0, ne_5_0, ne_6_0, ne_m1_0, ne_m2_0, b01_01, b01_n, lt_m2, lt_m1, le_m2, le_m1, Classical.not_not, Bool.or_false, Bool.false_or, Bool.true_or, Bool.or_true, j_Bath_measure_0, b_Bath_measure_0, j_Bath_measure_22, b_Bath_measure_22, j_Bath_measure_44, b_Bath_measure_44, j_Bath_measure_101, b_Bath_measure_101, j_Bath_measure_107, b_Bath_measure_107, an_0, an_1, cl_0, cl_1, ne_0_1, ne_1_0, pp_15_0, pp_15_6, pp_15_7, sh_15, sh_28, sh_29, vi_0, vi_1, l0, l1, pp_15_0, sT0 ht, sT1 ht, sT2 ht, sT3 ht, sT4 ht, sT5 ht, sT6 ht, sT7 ht, sT8 ht, sT9 ht, pT1 ht, pT2 ht, pT3 ht, pT4 ht, pT5 ht, pT6 ht, pT7 ht, pT8 ht, pT9 ht, hnM, c1]
    refine c_Bath_sort (mF_cT hM hc) hbn hmM ?_
    intro M1 f1 f2 f3
    have hM1 : mF I M1 := mF_tr hM (fun a j ha => f1 a j (by omega) (by omega))
    have eK : cK M t n m b = cK I t n m b := by unfold cK; rw [mF_ctm hM ht]
    have eF : cF M t n m b = cF I t n m b := by unfold cF; rw [mF_ctm hM ht]
    rw [eK] at f2
    rw [eF] at f3
    have hU1 : bUp I M1 t n m b := bUp_c hU (fun i hi => ⟨f1 26 i (by omega) (by omega), f1 27 i (by omega) (by omega)⟩) (fun c j hc => f1 c j (by omega) (by omega))
    simp only [cp_kk, cp_vc, cp_vs, cp_jm, cp_ent_en, cp_en_int, cp_en_ref, cp_en_ret, cp_en_long, cp_en_nil, cp_s1_at, cp_s2_at, cp_nl_int, cp_nl_ref, cp_nl_long, cp_nl_none, cp_pop_0, cp_pop_s, reduceIte, if_true, if_false, Bool.false_eq_true, Bool.true_eq_false, false_implies, implies_true, forall_const, true_implies, true_and, and_true, and_self, true_or, or_true, false_or, or_false, Value.category, List.length_cons, List.length_nil, Option.toList_some, Option.toList_none, List.cons_append, List.nil_append, List.append_nil, Prod.mk.injEq, Nat.add_zero, Nat.zero_add, Nat.reduceAdd, Nat.reduceSub, Nat.reduceEqDiff, Nat.reduceLeDiff, Nat.reduceLT, Nat.le_refl, beq_self_eq_true, Nat.reduceBEq, ne_eq, not_true_eq_false, not_false_eq_true, Int32.reduceAdd, Int32.reduceSub, Int32.reduceMul, Int32.reduceLE, Int32.reduceLT, Int32.reduceToNatClampNeg, b01_0, b01_1, ne_2_0, ne_3_0, ne_4_0, ne_5_0, ne_6_0, ne_m1_0, ne_m2_0, b01_01, b01_n, lt_m2, lt_m1, le_m2, le_m1, Classical.not_not, Bool.or_false, Bool.false_or, Bool.true_or, Bool.or_true, j_Bath_measure_0, b_Bath_measure_0, j_Bath_measure_22, b_Bath_measure_22, j_Bath_measure_44, b_Bath_measure_44, j_Bath_measure_101, b_Bath_measure_101, j_Bath_measure_107, b_Bath_measure_107, an_0, an_1, cl_0, cl_1, ne_0_1, ne_1_0, pp_15_0, pp_15_6, pp_15_7, sh_15, sh_28, sh_29, vi_0, vi_1, l0, l1, sh1 (show b < 8 by omega)]
    refine lp_Bath_measure_44 hc hbn hm ?_ (2 ^ b) 0 M1 _ (by omega) ?_ ?_ ?_ ?_ hM1 ?_ ?_
    · intro M2 L2 k0 k1 hM2 hU2
      refine cp_run 20 (fun t => t == 22) ck_Bath_measure ?_
      simp only [cp_vc, cp_vs, cp_jm, cp_ent_en, cp_en_int, cp_en_ref, cp_en_ret, cp_en_long, cp_en_nil, cp_s1_at, cp_s2_at, cp_nl_int, cp_nl_ref, cp_nl_long, cp_nl_none, cp_pop_0, cp_pop_s, reduceIte, if_true, if_false, Bool.false_eq_true, Bool.true_eq_false, false_implies, implies_true, forall_const, true_implies, true_and, and_true, and_self, true_or, or_true, false_or, or_false, Value.category, List.length_cons, List.length_nil, Option.toList_some, Option.toList_none, List.cons_append, List.nil_append, List.append_nil, Prod.mk.injEq, Nat.add_zero, Nat.zero_add, Nat.reduceAdd, Nat.reduceSub, Nat.reduceEqDiff, Nat.reduceLeDiff, Nat.reduceLT, Nat.le_refl, beq_self_eq_true, Nat.reduceBEq, ne_eq, not_true_eq_false, not_false_eq_true, Int32.reduceAdd, Int32.reduceSub, Int32.reduceMul, Int32.reduceLE, Int32.reduceLT, Int32.reduceToNatClampNeg, b01_0, b01_1, ne_2_0, ne_3_0, ne_4_0, ne_5_0, ne_6_0, ne_m1_0, ne_m2_0, b01_01, b01_n, lt_m2, lt_m1, le_m2, le_m1, Classical.not_not, j_Bath_measure_0, b_Bath_measure_0, j_Bath_measure_22, b_Bath_measure_22, j_Bath_measure_44, b_Bath_measure_44, j_Bath_measure_101, b_Bath_measure_101, j_Bath_measure_107, b_Bath_measure_107, an_0, an_1, cl_0, cl_1, ne_0_1, ne_1_0, pp_15_0, pp_15_6, pp_15_7, sh_15, sh_28, sh_29, vi_0, vi_1, k0, k1, nI_1]
      refine ih (b + 1) M2 _ (by omega) ?_ ?_ hM2 hU2 <;> simp [cp_s1_at, cp_nl_ref, cp_nl_int, k0]
    · simp [cp_s1_at, cp_nl_ref, cp_nl_int, l0]
    · simp [cp_s1_at, cp_nl_ref, cp_nl_int, l1]
    · simp [cp_s1_at, cp_nl_int]
    · simp [cp_s1_at, nI_0]
    · intro i hi
      by_cases e : i = b
      · rw [e]
        exact ⟨f2, f3⟩
      · exact hU1.1 i (by omega)
    · intro s hs
      exact hU1.2 s (by omega)
theorem grs_0 {nd : Nat → Int32} : fo (sp_gr nd 0) n 0 0 = 0 := fo_id n 0 0 (fun i a _ _ => by unfold sp_gr; simp)
theorem sum_0 {c w : Int32} {ti : sp_T} : sp_sum n c ti 0 w = w := fo_id n 0 w (fun a z _ _ => fo_id a 0 z (fun i y _ _ => by unfold sp_row; simp))
theorem c_Bath_measure {m : Nat} (hc : cT I t n) (hm : I 15 2 = nI m) (h : ∀ M : cp_I, mF I M → bUp I M t n m n → Q none SH M J (PP t u r x)) : MW g false (d + 4) 0 0 m_Bath_measure [.ref 15] SH I J (PP t u r x) Q := by
  obtain ⟨ht, hn6, hn, he⟩ := id hc
  refine MW.of ok_Bath_measure (Nat.le_of_ble_eq_true rfl) ?_
  refine cp_run 40 (fun t => t == 22) ck_Bath_measure ?_
  simp only [cp_vc, cp_vs, cp_jm, cp_ent_en, cp_en_int, cp_en_ref, cp_en_ret, cp_en_long, cp_en_nil, cp_s1_at, cp_s2_at, cp_nl_int, cp_nl_ref, cp_nl_long, cp_nl_none, cp_pop_0, cp_pop_s, reduceIte, if_true, if_false, Bool.false_eq_true, Bool.true_eq_false, false_implies, implies_true, forall_const, true_implies, true_and, and_true, and_self, true_or, or_true, false_or, or_false, Value.category, List.length_cons, List.length_nil, Option.toList_some, Option.toList_none, List.cons_append, List.nil_append, List.append_nil, Prod.mk.injEq, Nat.add_zero, Nat.zero_add, Nat.reduceAdd, Nat.reduceSub, Nat.reduceEqDiff, Nat.reduceLeDiff, Nat.reduceLT, Nat.le_refl, beq_self_eq_true, Nat.reduceBEq, ne_eq, not_true_eq_false, not_false_eq_true, Int32.reduceAdd, Int32.reduceSub, Int32.reduceMul, Int32.reduceLE, Int32.reduceLT, Int32.reduceToNatClampNeg, b01_0, b01_1, ne_2_0, ne_3_0, ne_4_0, ne_5_0, ne_6_0, ne_m1_0, ne_m2_0, b01_01, b01_n, lt_m2, lt_m1, le_m2, le_m1, Classical.not_not, j_Bath_measure_0, b_Bath_measure_0, j_Bath_measure_22, b_Bath_measure_22, j_Bath_measure_44, b_Bath_measure_44, j_Bath_measure_101, b_Bath_measure_101, j_Bath_measure_107, b_Bath_measure_107, an_0, an_1, cl_0, cl_1, ne_0_1, ne_1_0, pp_15_0, pp_15_6, pp_15_7, sh_15, sh_28, sh_29, vi_0, vi_1, pp_15_0, sT0 ht, sT1 ht, sT2 ht, sT3 ht, sT4 ht, sT5 ht, sT6 ht, sT7 ht, sT8 ht, sT9 ht, pT1 ht, pT2 ht, pT3 ht, pT4 ht, pT5 ht, pT6 ht, pT7 ht, pT8 ht, pT9 ht]
  refine lp_Bath_measure_22 hc hm h n 0 _ _ (by omega) ?_ ?_ (mF_u (mF_u (mF_refl I) (by omega)) (by omega)) ⟨fun i hi => by omega, fun s hs => ?_⟩
  · simp [cp_s1_at, cp_ent_en, cp_en_ref, cp_nl_ref]
  · simp [cp_s1_at, nI_0]
  · have : s = 0 := by simpa using hs
    subst this
    rw [grs_0, sum_0]
    simp [cp_u_at]
/-- what the bath keeps of the measures -/
def bOK (I : cp_I) (t n m : Nat) : Prop := bUp I I t n m n
theorem bOK_m {M : cp_I} {m : Nat} (ht : tk t) (hM : mF I M) (h : bUp I M t n m n) : bOK M t n m := by
  unfold bOK bUp cK cF at *
  rw [mF_ctm hM ht, mF_cn hM ht, mF_0 hM ht, mF_0 hM ht]
  exact h
/-- the memories that settle leaves -/
def stF (I M : cp_I) : Prop := ∀ a j, ¬ (26 ≤ a ∧ a ≤ 29) → ¬ (a = 15 ∧ (j = 1 ∨ j = 2 ∨ j = 3)) → M a j = I a j
theorem stF_t {M : cp_I} (h : stF I M) (ht : tk t) {k : Nat} (hk : k ≤ 9) (j : Nat) : M (t + k) j = I (t + k) j := h _ _ (by rcases ht with rfl | rfl <;> omega) (by rcases ht with rfl | rfl <;> omega)
theorem c_Bath_settle {m m' : Nat} {a b : Int32} (hc : cT I t n) (hm : I 15 2 = nI m) (hm30 : m < 2 ^ 30) (hm30' : m' < 2 ^ 30) (hB : bOK I t n m) (h : ∀ M : cp_I, stF I M → M 15 1 = a → M 15 2 = nI m' → M 15 3 = b → bOK M t n m' → Q none SH M J (PP t u r x)) : MW g false (d + 5) 0 0 m_Bath_settle [.ref 15, .int a, .int (nI m'), .int b] SH I J (PP t u r x) Q := by
  obtain ⟨ht, hn6, hn, he⟩ := id hc
  have t15 : ∀ k, k ≤ 9 → ¬ t + k = 15 := by intro k hk; rcases ht with rfl | rfl <;> omega
  have em : (nI m' = nI m) = (m' = m) := propext (nI_eq (by omega) (by omega))
  refine MW.of ok_Bath_settle (Nat.le_of_ble_eq_true rfl) ?_
  refine cp_run 40 (fun _ => false) ck_Bath_settle ?_
  simp only [cp_vc, cp_vs, cp_jm, cp_ent_en, cp_en_int, cp_en_ref, cp_en_ret, cp_en_long, cp_en_nil, cp_s1_at, cp_s2_at, cp_nl_int, cp_nl_ref, cp_nl_long, cp_nl_none, cp_pop_0, cp_pop_s, reduceIte, if_true, if_false, Bool.false_eq_true, Bool.true_eq_false, false_implies, implies_true, forall_const, true_implies, true_and, and_true, and_self, true_or, or_true, false_or, or_false, Value.category, List.length_cons, List.length_nil, Option.toList_some, Option.toList_none, List.cons_append, List.nil_append, List.append_nil, Prod.mk.injEq, Nat.add_zero, Nat.zero_add, Nat.reduceAdd, Nat.reduceSub, Nat.reduceEqDiff, Nat.reduceLeDiff, Nat.reduceLT, Nat.le_refl, beq_self_eq_true, Nat.reduceBEq, ne_eq, not_true_eq_false, not_false_eq_true, Int32.reduceAdd, Int32.reduceSub, Int32.reduceMul, Int32.reduceLE, Int32.reduceLT, Int32.reduceToNatClampNeg, b01_0, b01_1, ne_2_0, ne_3_0, ne_4_0, ne_5_0, ne_6_0, ne_m1_0, ne_m2_0, b01_01, b01_n, lt_m2, lt_m1, le_m2, le_m1, Classical.not_not, j_Bath_settle_0, b_Bath_settle_0, j_Bath_settle_27, b_Bath_settle_27, an_0, an_1, ne_0_1, ne_1_0, sh_15, cp_u_at, hm, em]
  refine ⟨fun c => ?_, fun c => ?_⟩
  · subst c
    refine h _ ?_ ?_ ?_ ?_ ?_
    · intro c j h1 h2
      rw [cp_u_at, if_neg (by omega), cp_u_at, if_neg (by omega)]
    · simp [cp_u_at]
    · simp [cp_u_at, hm]
    · simp [cp_u_at]
    · have f : ∀ k j, k ≤ 9 → cp_u (cp_u I 15 1 a) 15 3 b (t + k) j = I (t + k) j := by
        intro k j hk
        have := t15 k hk
        simp [cp_u_at, this]
      have e1 : ctm (cp_u (cp_u I 15 1 a) 15 3 b) t m' = ctm I t m' := by
        funext i j
        unfold ctm
        rw [f 4 _ (by omega)]
      have e2 : cn (cp_u (cp_u I 15 1 a) 15 3 b) t = cn I t := by
        funext i
        unfold cn
        rw [f 2 _ (by omega), f 3 _ (by omega)]
      unfold bOK bUp cK cF at *
      rw [e1, e2]
      have z0 := f 0 0 (by omega)
      have z1 := f 0 1 (by omega)
      rw [Nat.add_zero] at z0 z1
      rw [z0, z1]
      refine ⟨fun i hi => ?_, fun s hs => ?_⟩
      · have := hB.1 i hi
        simpa [cp_u_at] using this
      · have := hB.2 s hs
        simpa [cp_u_at] using this
  · have f : ∀ k j, k ≤ 9 → cp_u (cp_u (cp_u I 15 1 a) 15 3 b) 15 2 (nI m') (t + k) j = I (t + k) j := by
      intro k j hk
      have := t15 k hk
      simp [cp_u_at, this]
    have hc2 : cT (cp_u (cp_u (cp_u I 15 1 a) 15 3 b) 15 2 (nI m')) t n := by
      refine ⟨ht, hn6, ?_, fun i hi => ?_⟩
      · have := f 0 4 (by omega)
        rw [Nat.add_zero] at this
        rw [this]
        exact hn
      · rw [f 3 i (by omega)]
        exact he i hi
    refine c_Bath_measure (m := m') hc2 (by simp [cp_u_at]) ?_
    intro M hM hU
    simp only [cp_kk, cp_vc, cp_vs, cp_jm, cp_ent_en, cp_en_int, cp_en_ref, cp_en_ret, cp_en_long, cp_en_nil, cp_s1_at, cp_s2_at, cp_nl_int, cp_nl_ref, cp_nl_long, cp_nl_none, cp_pop_0, cp_pop_s, reduceIte, if_true, if_false, Bool.false_eq_true, Bool.true_eq_false, false_implies, implies_true, forall_const, true_implies, true_and, and_true, and_self, true_or, or_true, false_or, or_false, Value.category, List.length_cons, List.length_nil, Option.toList_some, Option.toList_none, List.cons_append, List.nil_append, List.append_nil, Prod.mk.injEq, Nat.add_zero, Nat.zero_add, Nat.reduceAdd, Nat.reduceSub, Nat.reduceEqDiff, Nat.reduceLeDiff, Nat.reduceLT, Nat.le_refl, beq_self_eq_true, Nat.reduceBEq, ne_eq, not_true_eq_false, not_false_eq_true, Int32.reduceAdd, Int32.reduceSub, Int32.reduceMul, Int32.reduceLE, Int32.reduceLT, Int32.reduceToNatClampNeg, b01_0, b01_1, ne_2_0, ne_3_0, ne_4_0, ne_5_0, ne_6_0, ne_m1_0, ne_m2_0, b01_01, b01_n, lt_m2, lt_m1, le_m2, le_m1, Classical.not_not, Bool.or_false, Bool.false_or, Bool.true_or, Bool.or_true, j_Bath_settle_0, b_Bath_settle_0, j_Bath_settle_27, b_Bath_settle_27, an_0, an_1, ne_0_1, ne_1_0, sh_15]
    refine h M ?_ ?_ ?_ ?_ (bOK_m ht hM hU)
    · intro c j h1 h2
      rw [hM c j h1, cp_u_at, if_neg (by omega), cp_u_at, if_neg (by omega), cp_u_at, if_neg (by omega)]
    · rw [hM 15 1 (by omega)]
      simp [cp_u_at]
    · rw [hM 15 2 (by omega)]
      simp [cp_u_at]
    · rw [hM 15 3 (by omega)]
      simp [cp_u_at]
theorem pp_set15 {c : Nat} : cp_u (PP t u r x) 15 0 (.ref c) = PP c u r x := by
  funext a k
  unfold cp_u PP
  by_cases h : a = 15 ∧ k = 0
  · simp [h]
  · simp [h]
theorem c_Bath_begin {c : Nat} (hc : cT (cp_u I 15 2 0) c n) (h : ∀ M : cp_I, stF I M → M 15 1 = 0 → M 15 2 = 0 → M 15 3 = 0 → bOK M c n 0 → Q none SH M J (PP c u r x)) : MW g false (d + 6) 0 0 m_Bath_begin [.ref 15, .ref c] SH I J (PP t u r x) Q := by
  obtain ⟨ht, hn6, hn, he⟩ := id hc
  refine MW.of ok_Bath_begin (Nat.le_of_ble_eq_true rfl) ?_
  refine cp_run 40 (fun _ => false) ck_Bath_begin ?_
  simp only [cp_vc, cp_vs, cp_jm, cp_ent_en, cp_en_int, cp_en_ref, cp_en_ret, cp_en_long, cp_en_nil, cp_s1_at, cp_s2_at, cp_nl_int, cp_nl_ref, cp_nl_long, cp_nl_none, cp_pop_0, cp_pop_s, reduceIte, if_true, if_false, Bool.false_eq_true, Bool.true_eq_false, false_implies, implies_true, forall_const, true_implies, true_and, and_true, and_self, true_or, or_true, false_or, or_false, Value.category, List.length_cons, List.length_nil, Option.toList_some, Option.toList_none, List.cons_append, List.nil_append, List.append_nil, Prod.mk.injEq, Nat.add_zero, Nat.zero_add, Nat.reduceAdd, Nat.reduceSub, Nat.reduceEqDiff, Nat.reduceLeDiff, Nat.reduceLT, Nat.le_refl, beq_self_eq_true, Nat.reduceBEq, ne_eq, not_true_eq_false, not_false_eq_true, Int32.reduceAdd, Int32.reduceSub, Int32.reduceMul, Int32.reduceLE, Int32.reduceLT, Int32.reduceToNatClampNeg, b01_0, b01_1, ne_2_0, ne_3_0, ne_4_0, ne_5_0, ne_6_0, ne_m1_0, ne_m2_0, b01_01, b01_n, lt_m2, lt_m1, le_m2, le_m1, Classical.not_not, j_Bath_begin_0, b_Bath_begin_0, an_0, an_1, cl_0, ne_0_1, ne_1_0, pp_15_0, sh_15, vi_0, pp_set15]
  refine c_Bath_measure (m := 0) (d := d + 1) hc (by simp [cp_u_at, nI_0]) ?_
  intro M hM hU
  simp only [cp_kk, cp_vc, cp_vs, cp_jm, cp_ent_en, cp_en_int, cp_en_ref, cp_en_ret, cp_en_long, cp_en_nil, cp_s1_at, cp_s2_at, cp_nl_int, cp_nl_ref, cp_nl_long, cp_nl_none, cp_pop_0, cp_pop_s, reduceIte, if_true, if_false, Bool.false_eq_true, Bool.true_eq_false, false_implies, implies_true, forall_const, true_implies, true_and, and_true, and_self, true_or, or_true, false_or, or_false, Value.category, List.length_cons, List.length_nil, Option.toList_some, Option.toList_none, List.cons_append, List.nil_append, List.append_nil, Prod.mk.injEq, Nat.add_zero, Nat.zero_add, Nat.reduceAdd, Nat.reduceSub, Nat.reduceEqDiff, Nat.reduceLeDiff, Nat.reduceLT, Nat.le_refl, beq_self_eq_true, Nat.reduceBEq, ne_eq, not_true_eq_false, not_false_eq_true, Int32.reduceAdd, Int32.reduceSub, Int32.reduceMul, Int32.reduceLE, Int32.reduceLT, Int32.reduceToNatClampNeg, b01_0, b01_1, ne_2_0, ne_3_0, ne_4_0, ne_5_0, ne_6_0, ne_m1_0, ne_m2_0, b01_01, b01_n, lt_m2, lt_m1, le_m2, le_m1, Classical.not_not, Bool.or_false, Bool.false_or, Bool.true_or, Bool.or_true, j_Bath_begin_0, b_Bath_begin_0, an_0, an_1, cl_0, ne_0_1, ne_1_0, pp_15_0, sh_15, vi_0]
  refine c_Bath_settle (m := 0) (m' := 0) (mF_cT hM hc) ?_ (by omega) (by omega) (bOK_m ht hM hU) ?_
  · rw [hM 15 2 (by omega)]
    simp [cp_u_at, nI_0]
  · intro M2 s1 s2 s3 s4 s5
    simp only [cp_kk, cp_vc, cp_vs, cp_jm, cp_ent_en, cp_en_int, cp_en_ref, cp_en_ret, cp_en_long, cp_en_nil, cp_s1_at, cp_s2_at, cp_nl_int, cp_nl_ref, cp_nl_long, cp_nl_none, cp_pop_0, cp_pop_s, reduceIte, if_true, if_false, Bool.false_eq_true, Bool.true_eq_false, false_implies, implies_true, forall_const, true_implies, true_and, and_true, and_self, true_or, or_true, false_or, or_false, Value.category, List.length_cons, List.length_nil, Option.toList_some, Option.toList_none, List.cons_append, List.nil_append, List.append_nil, Prod.mk.injEq, Nat.add_zero, Nat.zero_add, Nat.reduceAdd, Nat.reduceSub, Nat.reduceEqDiff, Nat.reduceLeDiff, Nat.reduceLT, Nat.le_refl, beq_self_eq_true, Nat.reduceBEq, ne_eq, not_true_eq_false, not_false_eq_true, Int32.reduceAdd, Int32.reduceSub, Int32.reduceMul, Int32.reduceLE, Int32.reduceLT, Int32.reduceToNatClampNeg, b01_0, b01_1, ne_2_0, ne_3_0, ne_4_0, ne_5_0, ne_6_0, ne_m1_0, ne_m2_0, b01_01, b01_n, lt_m2, lt_m1, le_m2, le_m1, Classical.not_not, Bool.or_false, Bool.false_or, Bool.true_or, Bool.or_true, j_Bath_begin_0, b_Bath_begin_0, an_0, an_1, cl_0, ne_0_1, ne_1_0, pp_15_0, sh_15, vi_0]
    refine h M2 ?_ s2 s3 s4 s5
    intro a j h1 h2
    rw [s1 a j h1 h2, hM a j h1, cp_u_at, if_neg (by omega)]
end Bath3
