section Pr1
variable {g : cp_G} {d : Nat} {I M N : cp_I} {J : cp_J} {t u r x : Nat}
theorem pr_company (h : Iv I t u) : PR g d m_CP_company m_Mod_company [] I J t u r x := by
  obtain ⟨⟨n, s, m, h0⟩, -, -⟩ := h
  have hB := h0.1
  have b0 := (iv_rf h0 1).1
  have b1 := (iv_rf h0 0).1
  unfold PR
  refine MW.of ok_CP_company (Nat.le_of_ble_eq_true rfl) ?_
  refine cp_run 40 (fun _ => false) ck_CP_company ?_
  simp only [cp_vc, cp_vs, cp_jm, cp_ent_en, cp_en_int, cp_en_ref, cp_en_ret, cp_en_long, cp_en_nil, cp_s1_at, cp_s2_at, cp_nl_int, cp_nl_ref, cp_nl_long, cp_nl_none, cp_pop_0, cp_pop_s, reduceIte, if_true, if_false, Bool.false_eq_true, Bool.true_eq_false, false_implies, implies_true, forall_const, true_implies, true_and, and_true, and_self, true_or, or_true, false_or, or_false, Value.category, List.length_cons, List.length_nil, Option.toList_some, Option.toList_none, List.cons_append, List.nil_append, List.append_nil, Prod.mk.injEq, Nat.add_zero, Nat.zero_add, Nat.reduceAdd, Nat.reduceSub, Nat.reduceEqDiff, Nat.reduceLeDiff, Nat.reduceLT, Nat.le_refl, beq_self_eq_true, Nat.reduceBEq, ne_eq, not_true_eq_false, not_false_eq_true, Int32.reduceAdd, Int32.reduceSub, Int32.reduceMul, Int32.reduceLE, Int32.reduceLT, Int32.reduceToNatClampNeg, b01_0, b01_1, ne_2_0, ne_3_0, ne_4_0, ne_5_0, ne_6_0, ne_m1_0, ne_m2_0, b01_01, b01_n, lt_m2, lt_m1, le_m2, le_m1, Classical.not_not, j_CP_company_0, b_CP_company_0, j_CP_company_17, b_CP_company_17, j_CP_company_18, b_CP_company_18, an_0, an_1, ne_0_1, ne_0_m1, ne_1_0, ne_1_m1, ne_m1_0, ne_m1_1, pp_0_7, sh_0, sh_15]
  refine c_CP_isTold (n := n) (iv_tk hB) (iv_n6 hB) (iv_cn hB) ?_ ?_
  · intro hn
    simp only [cp_kk, cp_vc, cp_vs, cp_jm, cp_ent_en, cp_en_int, cp_en_ref, cp_en_ret, cp_en_long, cp_en_nil, cp_s1_at, cp_s2_at, cp_nl_int, cp_nl_ref, cp_nl_long, cp_nl_none, cp_pop_0, cp_pop_s, reduceIte, if_true, if_false, Bool.false_eq_true, Bool.true_eq_false, false_implies, implies_true, forall_const, true_implies, true_and, and_true, and_self, true_or, or_true, false_or, or_false, Value.category, List.length_cons, List.length_nil, Option.toList_some, Option.toList_none, List.cons_append, List.nil_append, List.append_nil, Prod.mk.injEq, Nat.add_zero, Nat.zero_add, Nat.reduceAdd, Nat.reduceSub, Nat.reduceEqDiff, Nat.reduceLeDiff, Nat.reduceLT, Nat.le_refl, beq_self_eq_true, Nat.reduceBEq, ne_eq, not_true_eq_false, not_false_eq_true, Int32.reduceAdd, Int32.reduceSub, Int32.reduceMul, Int32.reduceLE, Int32.reduceLT, Int32.reduceToNatClampNeg, b01_0, b01_1, ne_2_0, ne_3_0, ne_4_0, ne_5_0, ne_6_0, ne_m1_0, ne_m2_0, b01_01, b01_n, lt_m2, lt_m1, le_m2, le_m1, Classical.not_not, Bool.or_false, Bool.false_or, Bool.true_or, Bool.or_true, j_CP_company_0, b_CP_company_0, j_CP_company_17, b_CP_company_17, j_CP_company_18, b_CP_company_18, an_0, an_1, ne_0_1, ne_0_m1, ne_1_0, ne_1_m1, ne_m1_0, ne_m1_1, pp_0_7, sh_0, sh_15]
    refine mid_i ?_
    refine c_Mod_company ?_ ?_
    · intro _
      exact fin_i (by rw [iv_st b1, iv_in b1]) (iv_rg h0)
    · intro e
      exact absurd e (iv_p1 b1 hn)
  · intro hn
    simp only [cp_kk, cp_vc, cp_vs, cp_jm, cp_ent_en, cp_en_int, cp_en_ref, cp_en_ret, cp_en_long, cp_en_nil, cp_s1_at, cp_s2_at, cp_nl_int, cp_nl_ref, cp_nl_long, cp_nl_none, cp_pop_0, cp_pop_s, reduceIte, if_true, if_false, Bool.false_eq_true, Bool.true_eq_false, false_implies, implies_true, forall_const, true_implies, true_and, and_true, and_self, true_or, or_true, false_or, or_false, Value.category, List.length_cons, List.length_nil, Option.toList_some, Option.toList_none, List.cons_append, List.nil_append, List.append_nil, Prod.mk.injEq, Nat.add_zero, Nat.zero_add, Nat.reduceAdd, Nat.reduceSub, Nat.reduceEqDiff, Nat.reduceLeDiff, Nat.reduceLT, Nat.le_refl, beq_self_eq_true, Nat.reduceBEq, ne_eq, not_true_eq_false, not_false_eq_true, Int32.reduceAdd, Int32.reduceSub, Int32.reduceMul, Int32.reduceLE, Int32.reduceLT, Int32.reduceToNatClampNeg, b01_0, b01_1, ne_2_0, ne_3_0, ne_4_0, ne_5_0, ne_6_0, ne_m1_0, ne_m2_0, b01_01, b01_n, lt_m2, lt_m1, le_m2, le_m1, Classical.not_not, Bool.or_false, Bool.false_or, Bool.true_or, Bool.or_true, j_CP_company_0, b_CP_company_0, j_CP_company_17, b_CP_company_17, j_CP_company_18, b_CP_company_18, an_0, an_1, ne_0_1, ne_0_m1, ne_1_0, ne_1_m1, ne_m1_0, ne_m1_1, pp_0_7, sh_0, sh_15]
    refine mid_i ?_
    refine c_Mod_company ?_ ?_
    · intro e
      exact absurd (iv_p0 b0 hn) e
    · intro _
      exact fin_i rfl (iv_rn h0 n14)
theorem pr_closest (h : Iv I t u) : PR g d m_CP_closest m_Mod_closest [] I J t u r x := by
  obtain ⟨⟨n, s, m, h0⟩, -, -⟩ := h
  have hB := h0.1
  have b0 := (iv_rf h0 1).1
  have b1 := (iv_rf h0 0).1
  unfold PR
  refine MW.of ok_CP_closest (Nat.le_of_ble_eq_true rfl) ?_
  refine cp_run 40 (fun _ => false) ck_CP_closest ?_
  simp only [cp_vc, cp_vs, cp_jm, cp_ent_en, cp_en_int, cp_en_ref, cp_en_ret, cp_en_long, cp_en_nil, cp_s1_at, cp_s2_at, cp_nl_int, cp_nl_ref, cp_nl_long, cp_nl_none, cp_pop_0, cp_pop_s, reduceIte, if_true, if_false, Bool.false_eq_true, Bool.true_eq_false, false_implies, implies_true, forall_const, true_implies, true_and, and_true, and_self, true_or, or_true, false_or, or_false, Value.category, List.length_cons, List.length_nil, Option.toList_some, Option.toList_none, List.cons_append, List.nil_append, List.append_nil, Prod.mk.injEq, Nat.add_zero, Nat.zero_add, Nat.reduceAdd, Nat.reduceSub, Nat.reduceEqDiff, Nat.reduceLeDiff, Nat.reduceLT, Nat.le_refl, beq_self_eq_true, Nat.reduceBEq, ne_eq, not_true_eq_false, not_false_eq_true, Int32.reduceAdd, Int32.reduceSub, Int32.reduceMul, Int32.reduceLE, Int32.reduceLT, Int32.reduceToNatClampNeg, b01_0, b01_1, ne_2_0, ne_3_0, ne_4_0, ne_5_0, ne_6_0, ne_m1_0, ne_m2_0, b01_01, b01_n, lt_m2, lt_m1, le_m2, le_m1, Classical.not_not, j_CP_closest_0, b_CP_closest_0, j_CP_closest_17, b_CP_closest_17, j_CP_closest_18, b_CP_closest_18, an_0, an_1, ne_0_1, ne_0_m1, ne_1_0, ne_1_m1, ne_m1_0, ne_m1_1, pp_0_7, sh_0, sh_15]
  refine c_CP_isTold (n := n) (iv_tk hB) (iv_n6 hB) (iv_cn hB) ?_ ?_
  · intro hn
    simp only [cp_kk, cp_vc, cp_vs, cp_jm, cp_ent_en, cp_en_int, cp_en_ref, cp_en_ret, cp_en_long, cp_en_nil, cp_s1_at, cp_s2_at, cp_nl_int, cp_nl_ref, cp_nl_long, cp_nl_none, cp_pop_0, cp_pop_s, reduceIte, if_true, if_false, Bool.false_eq_true, Bool.true_eq_false, false_implies, implies_true, forall_const, true_implies, true_and, and_true, and_self, true_or, or_true, false_or, or_false, Value.category, List.length_cons, List.length_nil, Option.toList_some, Option.toList_none, List.cons_append, List.nil_append, List.append_nil, Prod.mk.injEq, Nat.add_zero, Nat.zero_add, Nat.reduceAdd, Nat.reduceSub, Nat.reduceEqDiff, Nat.reduceLeDiff, Nat.reduceLT, Nat.le_refl, beq_self_eq_true, Nat.reduceBEq, ne_eq, not_true_eq_false, not_false_eq_true, Int32.reduceAdd, Int32.reduceSub, Int32.reduceMul, Int32.reduceLE, Int32.reduceLT, Int32.reduceToNatClampNeg, b01_0, b01_1, ne_2_0, ne_3_0, ne_4_0, ne_5_0, ne_6_0, ne_m1_0, ne_m2_0, b01_01, b01_n, lt_m2, lt_m1, le_m2, le_m1, Classical.not_not, Bool.or_false, Bool.false_or, Bool.true_or, Bool.or_true, j_CP_closest_0, b_CP_closest_0, j_CP_closest_17, b_CP_closest_17, j_CP_closest_18, b_CP_closest_18, an_0, an_1, ne_0_1, ne_0_m1, ne_1_0, ne_1_m1, ne_m1_0, ne_m1_1, pp_0_7, sh_0, sh_15]
    refine c_Bath_closestTwo (iv_cT b1) (iv_m b1) ?_
    simp only [cp_kk, cp_vc, cp_vs, cp_jm, cp_ent_en, cp_en_int, cp_en_ref, cp_en_ret, cp_en_long, cp_en_nil, cp_s1_at, cp_s2_at, cp_nl_int, cp_nl_ref, cp_nl_long, cp_nl_none, cp_pop_0, cp_pop_s, reduceIte, if_true, if_false, Bool.false_eq_true, Bool.true_eq_false, false_implies, implies_true, forall_const, true_implies, true_and, and_true, and_self, true_or, or_true, false_or, or_false, Value.category, List.length_cons, List.length_nil, Option.toList_some, Option.toList_none, List.cons_append, List.nil_append, List.append_nil, Prod.mk.injEq, Nat.add_zero, Nat.zero_add, Nat.reduceAdd, Nat.reduceSub, Nat.reduceEqDiff, Nat.reduceLeDiff, Nat.reduceLT, Nat.le_refl, beq_self_eq_true, Nat.reduceBEq, ne_eq, not_true_eq_false, not_false_eq_true, Int32.reduceAdd, Int32.reduceSub, Int32.reduceMul, Int32.reduceLE, Int32.reduceLT, Int32.reduceToNatClampNeg, b01_0, b01_1, ne_2_0, ne_3_0, ne_4_0, ne_5_0, ne_6_0, ne_m1_0, ne_m2_0, b01_01, b01_n, lt_m2, lt_m1, le_m2, le_m1, Classical.not_not, Bool.or_false, Bool.false_or, Bool.true_or, Bool.or_true, j_CP_closest_0, b_CP_closest_0, j_CP_closest_17, b_CP_closest_17, j_CP_closest_18, b_CP_closest_18, an_0, an_1, ne_0_1, ne_0_m1, ne_1_0, ne_1_m1, ne_m1_0, ne_m1_1, pp_0_7, sh_0, sh_15]
    refine mid_i ?_
    refine c_Mod_closest (iv_n6 b1) (iv_n b1) ?_ ?_
    · intro _
      exact fin_i (iv_clo b1) (iv_rg h0)
    · intro e
      exact absurd e (iv_p1 b1 hn)
  · intro hn
    simp only [cp_kk, cp_vc, cp_vs, cp_jm, cp_ent_en, cp_en_int, cp_en_ref, cp_en_ret, cp_en_long, cp_en_nil, cp_s1_at, cp_s2_at, cp_nl_int, cp_nl_ref, cp_nl_long, cp_nl_none, cp_pop_0, cp_pop_s, reduceIte, if_true, if_false, Bool.false_eq_true, Bool.true_eq_false, false_implies, implies_true, forall_const, true_implies, true_and, and_true, and_self, true_or, or_true, false_or, or_false, Value.category, List.length_cons, List.length_nil, Option.toList_some, Option.toList_none, List.cons_append, List.nil_append, List.append_nil, Prod.mk.injEq, Nat.add_zero, Nat.zero_add, Nat.reduceAdd, Nat.reduceSub, Nat.reduceEqDiff, Nat.reduceLeDiff, Nat.reduceLT, Nat.le_refl, beq_self_eq_true, Nat.reduceBEq, ne_eq, not_true_eq_false, not_false_eq_true, Int32.reduceAdd, Int32.reduceSub, Int32.reduceMul, Int32.reduceLE, Int32.reduceLT, Int32.reduceToNatClampNeg, b01_0, b01_1, ne_2_0, ne_3_0, ne_4_0, ne_5_0, ne_6_0, ne_m1_0, ne_m2_0, b01_01, b01_n, lt_m2, lt_m1, le_m2, le_m1, Classical.not_not, Bool.or_false, Bool.false_or, Bool.true_or, Bool.or_true, j_CP_closest_0, b_CP_closest_0, j_CP_closest_17, b_CP_closest_17, j_CP_closest_18, b_CP_closest_18, an_0, an_1, ne_0_1, ne_0_m1, ne_1_0, ne_1_m1, ne_m1_0, ne_m1_1, pp_0_7, sh_0, sh_15]
    refine mid_i ?_
    refine c_Mod_closest (iv_n6 b0) (iv_n b0) ?_ ?_
    · intro e
      exact absurd (iv_p0 b0 hn) e
    · intro _
      exact fin_i rfl (iv_rn h0 n14)
theorem pr_loneliest (h : Iv I t u) : PR g d m_CP_loneliest m_Mod_loneliest [] I J t u r x := by
  obtain ⟨⟨n, s, m, h0⟩, -, -⟩ := h
  have hB := h0.1
  have b0 := (iv_rf h0 1).1
  have b1 := (iv_rf h0 0).1
  unfold PR
  refine MW.of ok_CP_loneliest (Nat.le_of_ble_eq_true rfl) ?_
  refine cp_run 40 (fun _ => false) ck_CP_loneliest ?_
  simp only [cp_vc, cp_vs, cp_jm, cp_ent_en, cp_en_int, cp_en_ref, cp_en_ret, cp_en_long, cp_en_nil, cp_s1_at, cp_s2_at, cp_nl_int, cp_nl_ref, cp_nl_long, cp_nl_none, cp_pop_0, cp_pop_s, reduceIte, if_true, if_false, Bool.false_eq_true, Bool.true_eq_false, false_implies, implies_true, forall_const, true_implies, true_and, and_true, and_self, true_or, or_true, false_or, or_false, Value.category, List.length_cons, List.length_nil, Option.toList_some, Option.toList_none, List.cons_append, List.nil_append, List.append_nil, Prod.mk.injEq, Nat.add_zero, Nat.zero_add, Nat.reduceAdd, Nat.reduceSub, Nat.reduceEqDiff, Nat.reduceLeDiff, Nat.reduceLT, Nat.le_refl, beq_self_eq_true, Nat.reduceBEq, ne_eq, not_true_eq_false, not_false_eq_true, Int32.reduceAdd, Int32.reduceSub, Int32.reduceMul, Int32.reduceLE, Int32.reduceLT, Int32.reduceToNatClampNeg, b01_0, b01_1, ne_2_0, ne_3_0, ne_4_0, ne_5_0, ne_6_0, ne_m1_0, ne_m2_0, b01_01, b01_n, lt_m2, lt_m1, le_m2, le_m1, Classical.not_not, j_CP_loneliest_0, b_CP_loneliest_0, j_CP_loneliest_17, b_CP_loneliest_17, j_CP_loneliest_18, b_CP_loneliest_18, an_0, an_1, ne_0_1, ne_0_m1, ne_1_0, ne_1_m1, ne_m1_0, ne_m1_1, pp_0_7, sh_0, sh_15]
  refine c_CP_isTold (n := n) (iv_tk hB) (iv_n6 hB) (iv_cn hB) ?_ ?_
  · intro hn
    simp only [cp_kk, cp_vc, cp_vs, cp_jm, cp_ent_en, cp_en_int, cp_en_ref, cp_en_ret, cp_en_long, cp_en_nil, cp_s1_at, cp_s2_at, cp_nl_int, cp_nl_ref, cp_nl_long, cp_nl_none, cp_pop_0, cp_pop_s, reduceIte, if_true, if_false, Bool.false_eq_true, Bool.true_eq_false, false_implies, implies_true, forall_const, true_implies, true_and, and_true, and_self, true_or, or_true, false_or, or_false, Value.category, List.length_cons, List.length_nil, Option.toList_some, Option.toList_none, List.cons_append, List.nil_append, List.append_nil, Prod.mk.injEq, Nat.add_zero, Nat.zero_add, Nat.reduceAdd, Nat.reduceSub, Nat.reduceEqDiff, Nat.reduceLeDiff, Nat.reduceLT, Nat.le_refl, beq_self_eq_true, Nat.reduceBEq, ne_eq, not_true_eq_false, not_false_eq_true, Int32.reduceAdd, Int32.reduceSub, Int32.reduceMul, Int32.reduceLE, Int32.reduceLT, Int32.reduceToNatClampNeg, b01_0, b01_1, ne_2_0, ne_3_0, ne_4_0, ne_5_0, ne_6_0, ne_m1_0, ne_m2_0, b01_01, b01_n, lt_m2, lt_m1, le_m2, le_m1, Classical.not_not, Bool.or_false, Bool.false_or, Bool.true_or, Bool.or_true, j_CP_loneliest_0, b_CP_loneliest_0, j_CP_loneliest_17, b_CP_loneliest_17, j_CP_loneliest_18, b_CP_loneliest_18, an_0, an_1, ne_0_1, ne_0_m1, ne_1_0, ne_1_m1, ne_m1_0, ne_m1_1, pp_0_7, sh_0, sh_15]
    refine c_Bath_loneliestOne hn (iv_cT b1) (iv_KF b1) ?_
    simp only [cp_kk, cp_vc, cp_vs, cp_jm, cp_ent_en, cp_en_int, cp_en_ref, cp_en_ret, cp_en_long, cp_en_nil, cp_s1_at, cp_s2_at, cp_nl_int, cp_nl_ref, cp_nl_long, cp_nl_none, cp_pop_0, cp_pop_s, reduceIte, if_true, if_false, Bool.false_eq_true, Bool.true_eq_false, false_implies, implies_true, forall_const, true_implies, true_and, and_true, and_self, true_or, or_true, false_or, or_false, Value.category, List.length_cons, List.length_nil, Option.toList_some, Option.toList_none, List.cons_append, List.nil_append, List.append_nil, Prod.mk.injEq, Nat.add_zero, Nat.zero_add, Nat.reduceAdd, Nat.reduceSub, Nat.reduceEqDiff, Nat.reduceLeDiff, Nat.reduceLT, Nat.le_refl, beq_self_eq_true, Nat.reduceBEq, ne_eq, not_true_eq_false, not_false_eq_true, Int32.reduceAdd, Int32.reduceSub, Int32.reduceMul, Int32.reduceLE, Int32.reduceLT, Int32.reduceToNatClampNeg, b01_0, b01_1, ne_2_0, ne_3_0, ne_4_0, ne_5_0, ne_6_0, ne_m1_0, ne_m2_0, b01_01, b01_n, lt_m2, lt_m1, le_m2, le_m1, Classical.not_not, Bool.or_false, Bool.false_or, Bool.true_or, Bool.or_true, j_CP_loneliest_0, b_CP_loneliest_0, j_CP_loneliest_17, b_CP_loneliest_17, j_CP_loneliest_18, b_CP_loneliest_18, an_0, an_1, ne_0_1, ne_0_m1, ne_1_0, ne_1_m1, ne_m1_0, ne_m1_1, pp_0_7, sh_0, sh_15]
    refine mid_i ?_
    refine c_Mod_loneliest hn (iv_n6 b1) (iv_n b1) ?_ ?_
    · intro _
      exact fin_i rfl (iv_rg h0)
    · intro e
      exact absurd e (iv_p1 b1 hn)
  · intro hn
    simp only [cp_kk, cp_vc, cp_vs, cp_jm, cp_ent_en, cp_en_int, cp_en_ref, cp_en_ret, cp_en_long, cp_en_nil, cp_s1_at, cp_s2_at, cp_nl_int, cp_nl_ref, cp_nl_long, cp_nl_none, cp_pop_0, cp_pop_s, reduceIte, if_true, if_false, Bool.false_eq_true, Bool.true_eq_false, false_implies, implies_true, forall_const, true_implies, true_and, and_true, and_self, true_or, or_true, false_or, or_false, Value.category, List.length_cons, List.length_nil, Option.toList_some, Option.toList_none, List.cons_append, List.nil_append, List.append_nil, Prod.mk.injEq, Nat.add_zero, Nat.zero_add, Nat.reduceAdd, Nat.reduceSub, Nat.reduceEqDiff, Nat.reduceLeDiff, Nat.reduceLT, Nat.le_refl, beq_self_eq_true, Nat.reduceBEq, ne_eq, not_true_eq_false, not_false_eq_true, Int32.reduceAdd, Int32.reduceSub, Int32.reduceMul, Int32.reduceLE, Int32.reduceLT, Int32.reduceToNatClampNeg, b01_0, b01_1, ne_2_0, ne_3_0, ne_4_0, ne_5_0, ne_6_0, ne_m1_0, ne_m2_0, b01_01, b01_n, lt_m2, lt_m1, le_m2, le_m1, Classical.not_not, Bool.or_false, Bool.false_or, Bool.true_or, Bool.or_true, j_CP_loneliest_0, b_CP_loneliest_0, j_CP_loneliest_17, b_CP_loneliest_17, j_CP_loneliest_18, b_CP_loneliest_18, an_0, an_1, ne_0_1, ne_0_m1, ne_1_0, ne_1_m1, ne_m1_0, ne_m1_1, pp_0_7, sh_0, sh_15]
    refine mid_i ?_
    refine c_Mod_loneliest0 (iv_n6 b0) (iv_n b0) ?_ ?_
    · intro e
      exact absurd (iv_p0 b0 hn) e
    · intro _
      exact fin_i rfl (iv_rn h0 n14)
theorem pr_most (h : Iv I t u) : PR g d m_CP_most m_Mod_most [] I J t u r x := by
  obtain ⟨⟨n, s, m, h0⟩, -, -⟩ := h
  have hB := h0.1
  have b0 := (iv_rf h0 1).1
  have b1 := (iv_rf h0 0).1
  unfold PR
  refine MW.of ok_CP_most (Nat.le_of_ble_eq_true rfl) ?_
  refine cp_run 40 (fun _ => false) ck_CP_most ?_
  simp only [cp_vc, cp_vs, cp_jm, cp_ent_en, cp_en_int, cp_en_ref, cp_en_ret, cp_en_long, cp_en_nil, cp_s1_at, cp_s2_at, cp_nl_int, cp_nl_ref, cp_nl_long, cp_nl_none, cp_pop_0, cp_pop_s, reduceIte, if_true, if_false, Bool.false_eq_true, Bool.true_eq_false, false_implies, implies_true, forall_const, true_implies, true_and, and_true, and_self, true_or, or_true, false_or, or_false, Value.category, List.length_cons, List.length_nil, Option.toList_some, Option.toList_none, List.cons_append, List.nil_append, List.append_nil, Prod.mk.injEq, Nat.add_zero, Nat.zero_add, Nat.reduceAdd, Nat.reduceSub, Nat.reduceEqDiff, Nat.reduceLeDiff, Nat.reduceLT, Nat.le_refl, beq_self_eq_true, Nat.reduceBEq, ne_eq, not_true_eq_false, not_false_eq_true, Int32.reduceAdd, Int32.reduceSub, Int32.reduceMul, Int32.reduceLE, Int32.reduceLT, Int32.reduceToNatClampNeg, b01_0, b01_1, ne_2_0, ne_3_0, ne_4_0, ne_5_0, ne_6_0, ne_m1_0, ne_m2_0, b01_01, b01_n, lt_m2, lt_m1, le_m2, le_m1, Classical.not_not, j_CP_most_0, b_CP_most_0, j_CP_most_22, b_CP_most_22, j_CP_most_23, b_CP_most_23, an_0, an_1, cl_0, ne_0_1, ne_0_m1, ne_1_0, ne_1_m1, ne_m1_0, ne_m1_1, pp_0_7, pp_0_9, sh_0, sh_15, sh_37, vi_0]
  refine c_CP_isTold (n := n) (iv_tk hB) (iv_n6 hB) (iv_cn hB) ?_ ?_
  · intro hn
    simp only [cp_kk, cp_vc, cp_vs, cp_jm, cp_ent_en, cp_en_int, cp_en_ref, cp_en_ret, cp_en_long, cp_en_nil, cp_s1_at, cp_s2_at, cp_nl_int, cp_nl_ref, cp_nl_long, cp_nl_none, cp_pop_0, cp_pop_s, reduceIte, if_true, if_false, Bool.false_eq_true, Bool.true_eq_false, false_implies, implies_true, forall_const, true_implies, true_and, and_true, and_self, true_or, or_true, false_or, or_false, Value.category, List.length_cons, List.length_nil, Option.toList_some, Option.toList_none, List.cons_append, List.nil_append, List.append_nil, Prod.mk.injEq, Nat.add_zero, Nat.zero_add, Nat.reduceAdd, Nat.reduceSub, Nat.reduceEqDiff, Nat.reduceLeDiff, Nat.reduceLT, Nat.le_refl, beq_self_eq_true, Nat.reduceBEq, ne_eq, not_true_eq_false, not_false_eq_true, Int32.reduceAdd, Int32.reduceSub, Int32.reduceMul, Int32.reduceLE, Int32.reduceLT, Int32.reduceToNatClampNeg, b01_0, b01_1, ne_2_0, ne_3_0, ne_4_0, ne_5_0, ne_6_0, ne_m1_0, ne_m2_0, b01_01, b01_n, lt_m2, lt_m1, le_m2, le_m1, Classical.not_not, Bool.or_false, Bool.false_or, Bool.true_or, Bool.or_true, j_CP_most_0, b_CP_most_0, j_CP_most_22, b_CP_most_22, j_CP_most_23, b_CP_most_23, an_0, an_1, cl_0, ne_0_1, ne_0_m1, ne_1_0, ne_1_m1, ne_m1_0, ne_m1_1, pp_0_7, pp_0_9, sh_0, sh_15, sh_37, vi_0]
    refine c_Comp_largest (w := 0) (iv_cT b1) (by omega) ?_
    simp only [cp_kk, cp_vc, cp_vs, cp_jm, cp_ent_en, cp_en_int, cp_en_ref, cp_en_ret, cp_en_long, cp_en_nil, cp_s1_at, cp_s2_at, cp_nl_int, cp_nl_ref, cp_nl_long, cp_nl_none, cp_pop_0, cp_pop_s, reduceIte, if_true, if_false, Bool.false_eq_true, Bool.true_eq_false, false_implies, implies_true, forall_const, true_implies, true_and, and_true, and_self, true_or, or_true, false_or, or_false, Value.category, List.length_cons, List.length_nil, Option.toList_some, Option.toList_none, List.cons_append, List.nil_append, List.append_nil, Prod.mk.injEq, Nat.add_zero, Nat.zero_add, Nat.reduceAdd, Nat.reduceSub, Nat.reduceEqDiff, Nat.reduceLeDiff, Nat.reduceLT, Nat.le_refl, beq_self_eq_true, Nat.reduceBEq, ne_eq, not_true_eq_false, not_false_eq_true, Int32.reduceAdd, Int32.reduceSub, Int32.reduceMul, Int32.reduceLE, Int32.reduceLT, Int32.reduceToNatClampNeg, b01_0, b01_1, ne_2_0, ne_3_0, ne_4_0, ne_5_0, ne_6_0, ne_m1_0, ne_m2_0, b01_01, b01_n, lt_m2, lt_m1, le_m2, le_m1, Classical.not_not, Bool.or_false, Bool.false_or, Bool.true_or, Bool.or_true, j_CP_most_0, b_CP_most_0, j_CP_most_22, b_CP_most_22, j_CP_most_23, b_CP_most_23, an_0, an_1, cl_0, ne_0_1, ne_0_m1, ne_1_0, ne_1_m1, ne_m1_0, ne_m1_1, pp_0_7, pp_0_9, sh_0, sh_15, sh_37, vi_0]
    refine mid_i ?_
    refine c_Mod_most (iv_n6 b1) (iv_n b1) ?_ ?_
    · intro _
      exact fin_i (iv_lar b1 0) (iv_rg h0)
    · intro e
      exact absurd e (iv_p1 b1 hn)
  · intro hn
    simp only [cp_kk, cp_vc, cp_vs, cp_jm, cp_ent_en, cp_en_int, cp_en_ref, cp_en_ret, cp_en_long, cp_en_nil, cp_s1_at, cp_s2_at, cp_nl_int, cp_nl_ref, cp_nl_long, cp_nl_none, cp_pop_0, cp_pop_s, reduceIte, if_true, if_false, Bool.false_eq_true, Bool.true_eq_false, false_implies, implies_true, forall_const, true_implies, true_and, and_true, and_self, true_or, or_true, false_or, or_false, Value.category, List.length_cons, List.length_nil, Option.toList_some, Option.toList_none, List.cons_append, List.nil_append, List.append_nil, Prod.mk.injEq, Nat.add_zero, Nat.zero_add, Nat.reduceAdd, Nat.reduceSub, Nat.reduceEqDiff, Nat.reduceLeDiff, Nat.reduceLT, Nat.le_refl, beq_self_eq_true, Nat.reduceBEq, ne_eq, not_true_eq_false, not_false_eq_true, Int32.reduceAdd, Int32.reduceSub, Int32.reduceMul, Int32.reduceLE, Int32.reduceLT, Int32.reduceToNatClampNeg, b01_0, b01_1, ne_2_0, ne_3_0, ne_4_0, ne_5_0, ne_6_0, ne_m1_0, ne_m2_0, b01_01, b01_n, lt_m2, lt_m1, le_m2, le_m1, Classical.not_not, Bool.or_false, Bool.false_or, Bool.true_or, Bool.or_true, j_CP_most_0, b_CP_most_0, j_CP_most_22, b_CP_most_22, j_CP_most_23, b_CP_most_23, an_0, an_1, cl_0, ne_0_1, ne_0_m1, ne_1_0, ne_1_m1, ne_m1_0, ne_m1_1, pp_0_7, pp_0_9, sh_0, sh_15, sh_37, vi_0]
    refine mid_i ?_
    refine c_Mod_most (iv_n6 b0) (iv_n b0) ?_ ?_
    · intro e
      exact absurd (iv_p0 b0 hn) e
    · intro _
      exact fin_i rfl (iv_rn h0 n14)
theorem pr_snugs (h : Iv I t u) : PR g d m_CP_snugs m_Mod_snugs [] I J t u r x := by
  obtain ⟨⟨n, s, m, h0⟩, -, -⟩ := h
  have hB := h0.1
  have b0 := (iv_rf h0 1).1
  have b1 := (iv_rf h0 0).1
  unfold PR
  refine MW.of ok_CP_snugs (Nat.le_of_ble_eq_true rfl) ?_
  refine cp_run 40 (fun _ => false) ck_CP_snugs ?_
  simp only [cp_vc, cp_vs, cp_jm, cp_ent_en, cp_en_int, cp_en_ref, cp_en_ret, cp_en_long, cp_en_nil, cp_s1_at, cp_s2_at, cp_nl_int, cp_nl_ref, cp_nl_long, cp_nl_none, cp_pop_0, cp_pop_s, reduceIte, if_true, if_false, Bool.false_eq_true, Bool.true_eq_false, false_implies, implies_true, forall_const, true_implies, true_and, and_true, and_self, true_or, or_true, false_or, or_false, Value.category, List.length_cons, List.length_nil, Option.toList_some, Option.toList_none, List.cons_append, List.nil_append, List.append_nil, Prod.mk.injEq, Nat.add_zero, Nat.zero_add, Nat.reduceAdd, Nat.reduceSub, Nat.reduceEqDiff, Nat.reduceLeDiff, Nat.reduceLT, Nat.le_refl, beq_self_eq_true, Nat.reduceBEq, ne_eq, not_true_eq_false, not_false_eq_true, Int32.reduceAdd, Int32.reduceSub, Int32.reduceMul, Int32.reduceLE, Int32.reduceLT, Int32.reduceToNatClampNeg, b01_0, b01_1, ne_2_0, ne_3_0, ne_4_0, ne_5_0, ne_6_0, ne_m1_0, ne_m2_0, b01_01, b01_n, lt_m2, lt_m1, le_m2, le_m1, Classical.not_not, j_CP_snugs_0, b_CP_snugs_0, j_CP_snugs_21, b_CP_snugs_21, j_CP_snugs_22, b_CP_snugs_22, an_0, an_1, ne_0_1, ne_0_m1, ne_1_0, ne_1_m1, ne_m1_0, ne_m1_1, pp_0_7, pp_0_9, sh_0, sh_15, sh_37]
  refine c_CP_isTold (n := n) (iv_tk hB) (iv_n6 hB) (iv_cn hB) ?_ ?_
  · intro hn
    simp only [cp_kk, cp_vc, cp_vs, cp_jm, cp_ent_en, cp_en_int, cp_en_ref, cp_en_ret, cp_en_long, cp_en_nil, cp_s1_at, cp_s2_at, cp_nl_int, cp_nl_ref, cp_nl_long, cp_nl_none, cp_pop_0, cp_pop_s, reduceIte, if_true, if_false, Bool.false_eq_true, Bool.true_eq_false, false_implies, implies_true, forall_const, true_implies, true_and, and_true, and_self, true_or, or_true, false_or, or_false, Value.category, List.length_cons, List.length_nil, Option.toList_some, Option.toList_none, List.cons_append, List.nil_append, List.append_nil, Prod.mk.injEq, Nat.add_zero, Nat.zero_add, Nat.reduceAdd, Nat.reduceSub, Nat.reduceEqDiff, Nat.reduceLeDiff, Nat.reduceLT, Nat.le_refl, beq_self_eq_true, Nat.reduceBEq, ne_eq, not_true_eq_false, not_false_eq_true, Int32.reduceAdd, Int32.reduceSub, Int32.reduceMul, Int32.reduceLE, Int32.reduceLT, Int32.reduceToNatClampNeg, b01_0, b01_1, ne_2_0, ne_3_0, ne_4_0, ne_5_0, ne_6_0, ne_m1_0, ne_m2_0, b01_01, b01_n, lt_m2, lt_m1, le_m2, le_m1, Classical.not_not, Bool.or_false, Bool.false_or, Bool.true_or, Bool.or_true, j_CP_snugs_0, b_CP_snugs_0, j_CP_snugs_21, b_CP_snugs_21, j_CP_snugs_22, b_CP_snugs_22, an_0, an_1, ne_0_1, ne_0_m1, ne_1_0, ne_1_m1, ne_m1_0, ne_m1_1, pp_0_7, pp_0_9, sh_0, sh_15, sh_37]
    refine c_Comp_countSnug (iv_cT b1) ?_
    simp only [cp_kk, cp_vc, cp_vs, cp_jm, cp_ent_en, cp_en_int, cp_en_ref, cp_en_ret, cp_en_long, cp_en_nil, cp_s1_at, cp_s2_at, cp_nl_int, cp_nl_ref, cp_nl_long, cp_nl_none, cp_pop_0, cp_pop_s, reduceIte, if_true, if_false, Bool.false_eq_true, Bool.true_eq_false, false_implies, implies_true, forall_const, true_implies, true_and, and_true, and_self, true_or, or_true, false_or, or_false, Value.category, List.length_cons, List.length_nil, Option.toList_some, Option.toList_none, List.cons_append, List.nil_append, List.append_nil, Prod.mk.injEq, Nat.add_zero, Nat.zero_add, Nat.reduceAdd, Nat.reduceSub, Nat.reduceEqDiff, Nat.reduceLeDiff, Nat.reduceLT, Nat.le_refl, beq_self_eq_true, Nat.reduceBEq, ne_eq, not_true_eq_false, not_false_eq_true, Int32.reduceAdd, Int32.reduceSub, Int32.reduceMul, Int32.reduceLE, Int32.reduceLT, Int32.reduceToNatClampNeg, b01_0, b01_1, ne_2_0, ne_3_0, ne_4_0, ne_5_0, ne_6_0, ne_m1_0, ne_m2_0, b01_01, b01_n, lt_m2, lt_m1, le_m2, le_m1, Classical.not_not, Bool.or_false, Bool.false_or, Bool.true_or, Bool.or_true, j_CP_snugs_0, b_CP_snugs_0, j_CP_snugs_21, b_CP_snugs_21, j_CP_snugs_22, b_CP_snugs_22, an_0, an_1, ne_0_1, ne_0_m1, ne_1_0, ne_1_m1, ne_m1_0, ne_m1_1, pp_0_7, pp_0_9, sh_0, sh_15, sh_37]
    refine mid_i ?_
    refine c_Mod_snugs (iv_n6 b1) (iv_n b1) ?_ ?_
    · intro _
      exact fin_i (congrArg nI (cnt_cong (2 ^ n) 0 0 (fun j _ hj => (iv_cs b1 (by omega)).symm))) (iv_rg h0)
    · intro e
      exact absurd e (iv_p1 b1 hn)
  · intro hn
    simp only [cp_kk, cp_vc, cp_vs, cp_jm, cp_ent_en, cp_en_int, cp_en_ref, cp_en_ret, cp_en_long, cp_en_nil, cp_s1_at, cp_s2_at, cp_nl_int, cp_nl_ref, cp_nl_long, cp_nl_none, cp_pop_0, cp_pop_s, reduceIte, if_true, if_false, Bool.false_eq_true, Bool.true_eq_false, false_implies, implies_true, forall_const, true_implies, true_and, and_true, and_self, true_or, or_true, false_or, or_false, Value.category, List.length_cons, List.length_nil, Option.toList_some, Option.toList_none, List.cons_append, List.nil_append, List.append_nil, Prod.mk.injEq, Nat.add_zero, Nat.zero_add, Nat.reduceAdd, Nat.reduceSub, Nat.reduceEqDiff, Nat.reduceLeDiff, Nat.reduceLT, Nat.le_refl, beq_self_eq_true, Nat.reduceBEq, ne_eq, not_true_eq_false, not_false_eq_true, Int32.reduceAdd, Int32.reduceSub, Int32.reduceMul, Int32.reduceLE, Int32.reduceLT, Int32.reduceToNatClampNeg, b01_0, b01_1, ne_2_0, ne_3_0, ne_4_0, ne_5_0, ne_6_0, ne_m1_0, ne_m2_0, b01_01, b01_n, lt_m2, lt_m1, le_m2, le_m1, Classical.not_not, Bool.or_false, Bool.false_or, Bool.true_or, Bool.or_true, j_CP_snugs_0, b_CP_snugs_0, j_CP_snugs_21, b_CP_snugs_21, j_CP_snugs_22, b_CP_snugs_22, an_0, an_1, ne_0_1, ne_0_m1, ne_1_0, ne_1_m1, ne_m1_0, ne_m1_1, pp_0_7, pp_0_9, sh_0, sh_15, sh_37]
    refine mid_i ?_
    refine c_Mod_snugs (iv_n6 b0) (iv_n b0) ?_ ?_
    · intro e
      exact absurd (iv_p0 b0 hn) e
    · intro _
      exact fin_i rfl (iv_rn h0 n14)
theorem pr_rests (h : Iv I t u) : PR g d m_CP_rests m_Mod_rests [] I J t u r x := by
  obtain ⟨⟨n, s, m, h0⟩, -, -⟩ := h
  have hB := h0.1
  have b0 := (iv_rf h0 1).1
  have b1 := (iv_rf h0 0).1
  unfold PR
  refine MW.of ok_CP_rests (Nat.le_of_ble_eq_true rfl) ?_
  refine cp_run 40 (fun _ => false) ck_CP_rests ?_
  simp only [cp_vc, cp_vs, cp_jm, cp_ent_en, cp_en_int, cp_en_ref, cp_en_ret, cp_en_long, cp_en_nil, cp_s1_at, cp_s2_at, cp_nl_int, cp_nl_ref, cp_nl_long, cp_nl_none, cp_pop_0, cp_pop_s, reduceIte, if_true, if_false, Bool.false_eq_true, Bool.true_eq_false, false_implies, implies_true, forall_const, true_implies, true_and, and_true, and_self, true_or, or_true, false_or, or_false, Value.category, List.length_cons, List.length_nil, Option.toList_some, Option.toList_none, List.cons_append, List.nil_append, List.append_nil, Prod.mk.injEq, Nat.add_zero, Nat.zero_add, Nat.reduceAdd, Nat.reduceSub, Nat.reduceEqDiff, Nat.reduceLeDiff, Nat.reduceLT, Nat.le_refl, beq_self_eq_true, Nat.reduceBEq, ne_eq, not_true_eq_false, not_false_eq_true, Int32.reduceAdd, Int32.reduceSub, Int32.reduceMul, Int32.reduceLE, Int32.reduceLT, Int32.reduceToNatClampNeg, b01_0, b01_1, ne_2_0, ne_3_0, ne_4_0, ne_5_0, ne_6_0, ne_m1_0, ne_m2_0, b01_01, b01_n, lt_m2, lt_m1, le_m2, le_m1, Classical.not_not, j_CP_rests_0, b_CP_rests_0, j_CP_rests_21, b_CP_rests_21, j_CP_rests_22, b_CP_rests_22, an_0, an_1, ne_0_1, ne_0_m1, ne_1_0, ne_1_m1, ne_m1_0, ne_m1_1, pp_0_7, pp_0_9, sh_0, sh_15, sh_37]
  refine c_CP_isTold (n := n) (iv_tk hB) (iv_n6 hB) (iv_cn hB) ?_ ?_
  · intro hn
    simp only [cp_kk, cp_vc, cp_vs, cp_jm, cp_ent_en, cp_en_int, cp_en_ref, cp_en_ret, cp_en_long, cp_en_nil, cp_s1_at, cp_s2_at, cp_nl_int, cp_nl_ref, cp_nl_long, cp_nl_none, cp_pop_0, cp_pop_s, reduceIte, if_true, if_false, Bool.false_eq_true, Bool.true_eq_false, false_implies, implies_true, forall_const, true_implies, true_and, and_true, and_self, true_or, or_true, false_or, or_false, Value.category, List.length_cons, List.length_nil, Option.toList_some, Option.toList_none, List.cons_append, List.nil_append, List.append_nil, Prod.mk.injEq, Nat.add_zero, Nat.zero_add, Nat.reduceAdd, Nat.reduceSub, Nat.reduceEqDiff, Nat.reduceLeDiff, Nat.reduceLT, Nat.le_refl, beq_self_eq_true, Nat.reduceBEq, ne_eq, not_true_eq_false, not_false_eq_true, Int32.reduceAdd, Int32.reduceSub, Int32.reduceMul, Int32.reduceLE, Int32.reduceLT, Int32.reduceToNatClampNeg, b01_0, b01_1, ne_2_0, ne_3_0, ne_4_0, ne_5_0, ne_6_0, ne_m1_0, ne_m2_0, b01_01, b01_n, lt_m2, lt_m1, le_m2, le_m1, Classical.not_not, Bool.or_false, Bool.false_or, Bool.true_or, Bool.or_true, j_CP_rests_0, b_CP_rests_0, j_CP_rests_21, b_CP_rests_21, j_CP_rests_22, b_CP_rests_22, an_0, an_1, ne_0_1, ne_0_m1, ne_1_0, ne_1_m1, ne_m1_0, ne_m1_1, pp_0_7, pp_0_9, sh_0, sh_15, sh_37]
    refine c_Comp_countRests (iv_cT b1) ?_
    simp only [cp_kk, cp_vc, cp_vs, cp_jm, cp_ent_en, cp_en_int, cp_en_ref, cp_en_ret, cp_en_long, cp_en_nil, cp_s1_at, cp_s2_at, cp_nl_int, cp_nl_ref, cp_nl_long, cp_nl_none, cp_pop_0, cp_pop_s, reduceIte, if_true, if_false, Bool.false_eq_true, Bool.true_eq_false, false_implies, implies_true, forall_const, true_implies, true_and, and_true, and_self, true_or, or_true, false_or, or_false, Value.category, List.length_cons, List.length_nil, Option.toList_some, Option.toList_none, List.cons_append, List.nil_append, List.append_nil, Prod.mk.injEq, Nat.add_zero, Nat.zero_add, Nat.reduceAdd, Nat.reduceSub, Nat.reduceEqDiff, Nat.reduceLeDiff, Nat.reduceLT, Nat.le_refl, beq_self_eq_true, Nat.reduceBEq, ne_eq, not_true_eq_false, not_false_eq_true, Int32.reduceAdd, Int32.reduceSub, Int32.reduceMul, Int32.reduceLE, Int32.reduceLT, Int32.reduceToNatClampNeg, b01_0, b01_1, ne_2_0, ne_3_0, ne_4_0, ne_5_0, ne_6_0, ne_m1_0, ne_m2_0, b01_01, b01_n, lt_m2, lt_m1, le_m2, le_m1, Classical.not_not, Bool.or_false, Bool.false_or, Bool.true_or, Bool.or_true, j_CP_rests_0, b_CP_rests_0, j_CP_rests_21, b_CP_rests_21, j_CP_rests_22, b_CP_rests_22, an_0, an_1, ne_0_1, ne_0_m1, ne_1_0, ne_1_m1, ne_m1_0, ne_m1_1, pp_0_7, pp_0_9, sh_0, sh_15, sh_37]
    refine mid_i ?_
    refine c_Mod_rests (iv_n6 b1) (iv_n b1) ?_ ?_
    · intro _
      exact fin_i (congrArg nI (cnt_cong (2 ^ n) 0 0 (fun j _ hj => (iv_crr b1 (by omega)).symm))) (iv_rg h0)
    · intro e
      exact absurd e (iv_p1 b1 hn)
  · intro hn
    simp only [cp_kk, cp_vc, cp_vs, cp_jm, cp_ent_en, cp_en_int, cp_en_ref, cp_en_ret, cp_en_long, cp_en_nil, cp_s1_at, cp_s2_at, cp_nl_int, cp_nl_ref, cp_nl_long, cp_nl_none, cp_pop_0, cp_pop_s, reduceIte, if_true, if_false, Bool.false_eq_true, Bool.true_eq_false, false_implies, implies_true, forall_const, true_implies, true_and, and_true, and_self, true_or, or_true, false_or, or_false, Value.category, List.length_cons, List.length_nil, Option.toList_some, Option.toList_none, List.cons_append, List.nil_append, List.append_nil, Prod.mk.injEq, Nat.add_zero, Nat.zero_add, Nat.reduceAdd, Nat.reduceSub, Nat.reduceEqDiff, Nat.reduceLeDiff, Nat.reduceLT, Nat.le_refl, beq_self_eq_true, Nat.reduceBEq, ne_eq, not_true_eq_false, not_false_eq_true, Int32.reduceAdd, Int32.reduceSub, Int32.reduceMul, Int32.reduceLE, Int32.reduceLT, Int32.reduceToNatClampNeg, b01_0, b01_1, ne_2_0, ne_3_0, ne_4_0, ne_5_0, ne_6_0, ne_m1_0, ne_m2_0, b01_01, b01_n, lt_m2, lt_m1, le_m2, le_m1, Classical.not_not, Bool.or_false, Bool.false_or, Bool.true_or, Bool.or_true, j_CP_rests_0, b_CP_rests_0, j_CP_rests_21, b_CP_rests_21, j_CP_rests_22, b_CP_rests_22, an_0, an_1, ne_0_1, ne_0_m1, ne_1_0, ne_1_m1, ne_m1_0, ne_m1_1, pp_0_7, pp_0_9, sh_0, sh_15, sh_37]
    refine mid_i ?_
    refine c_Mod_rests (iv_n6 b0) (iv_n b0) ?_ ?_
    · intro e
      exact absurd (iv_p0 b0 hn) e
    · intro _
      exact fin_i rfl (iv_rn h0 n14)
theorem pr_meetings (h : Iv I t u) : PR g d m_CP_meetings m_Mod_meetings [] I J t u r x := by
  obtain ⟨⟨n, s, m, h0⟩, -, -⟩ := h
  have hB := h0.1
  have b0 := (iv_rf h0 1).1
  have b1 := (iv_rf h0 0).1
  unfold PR
  refine MW.of ok_CP_meetings (Nat.le_of_ble_eq_true rfl) ?_
  refine cp_run 40 (fun _ => false) ck_CP_meetings ?_
  simp only [cp_vc, cp_vs, cp_jm, cp_ent_en, cp_en_int, cp_en_ref, cp_en_ret, cp_en_long, cp_en_nil, cp_s1_at, cp_s2_at, cp_nl_int, cp_nl_ref, cp_nl_long, cp_nl_none, cp_pop_0, cp_pop_s, reduceIte, if_true, if_false, Bool.false_eq_true, Bool.true_eq_false, false_implies, implies_true, forall_const, true_implies, true_and, and_true, and_self, true_or, or_true, false_or, or_false, Value.category, List.length_cons, List.length_nil, Option.toList_some, Option.toList_none, List.cons_append, List.nil_append, List.append_nil, Prod.mk.injEq, Nat.add_zero, Nat.zero_add, Nat.reduceAdd, Nat.reduceSub, Nat.reduceEqDiff, Nat.reduceLeDiff, Nat.reduceLT, Nat.le_refl, beq_self_eq_true, Nat.reduceBEq, ne_eq, not_true_eq_false, not_false_eq_true, Int32.reduceAdd, Int32.reduceSub, Int32.reduceMul, Int32.reduceLE, Int32.reduceLT, Int32.reduceToNatClampNeg, b01_0, b01_1, ne_2_0, ne_3_0, ne_4_0, ne_5_0, ne_6_0, ne_m1_0, ne_m2_0, b01_01, b01_n, lt_m2, lt_m1, le_m2, le_m1, Classical.not_not, j_CP_meetings_0, b_CP_meetings_0, j_CP_meetings_21, b_CP_meetings_21, j_CP_meetings_22, b_CP_meetings_22, an_0, an_1, ne_0_1, ne_0_m1, ne_1_0, ne_1_m1, ne_m1_0, ne_m1_1, pp_0_11, pp_0_7, sh_0, sh_15, sh_40]
  refine c_CP_isTold (n := n) (iv_tk hB) (iv_n6 hB) (iv_cn hB) ?_ ?_
  · intro hn
    simp only [cp_kk, cp_vc, cp_vs, cp_jm, cp_ent_en, cp_en_int, cp_en_ref, cp_en_ret, cp_en_long, cp_en_nil, cp_s1_at, cp_s2_at, cp_nl_int, cp_nl_ref, cp_nl_long, cp_nl_none, cp_pop_0, cp_pop_s, reduceIte, if_true, if_false, Bool.false_eq_true, Bool.true_eq_false, false_implies, implies_true, forall_const, true_implies, true_and, and_true, and_self, true_or, or_true, false_or, or_false, Value.category, List.length_cons, List.length_nil, Option.toList_some, Option.toList_none, List.cons_append, List.nil_append, List.append_nil, Prod.mk.injEq, Nat.add_zero, Nat.zero_add, Nat.reduceAdd, Nat.reduceSub, Nat.reduceEqDiff, Nat.reduceLeDiff, Nat.reduceLT, Nat.le_refl, beq_self_eq_true, Nat.reduceBEq, ne_eq, not_true_eq_false, not_false_eq_true, Int32.reduceAdd, Int32.reduceSub, Int32.reduceMul, Int32.reduceLE, Int32.reduceLT, Int32.reduceToNatClampNeg, b01_0, b01_1, ne_2_0, ne_3_0, ne_4_0, ne_5_0, ne_6_0, ne_m1_0, ne_m2_0, b01_01, b01_n, lt_m2, lt_m1, le_m2, le_m1, Classical.not_not, Bool.or_false, Bool.false_or, Bool.true_or, Bool.or_true, j_CP_meetings_0, b_CP_meetings_0, j_CP_meetings_21, b_CP_meetings_21, j_CP_meetings_22, b_CP_meetings_22, an_0, an_1, ne_0_1, ne_0_m1, ne_1_0, ne_1_m1, ne_m1_0, ne_m1_1, pp_0_11, pp_0_7, sh_0, sh_15, sh_40]
    refine c_Intro_countPossible (iv_cT b1) (iv_KF b1) ?_
    simp only [cp_kk, cp_vc, cp_vs, cp_jm, cp_ent_en, cp_en_int, cp_en_ref, cp_en_ret, cp_en_long, cp_en_nil, cp_s1_at, cp_s2_at, cp_nl_int, cp_nl_ref, cp_nl_long, cp_nl_none, cp_pop_0, cp_pop_s, reduceIte, if_true, if_false, Bool.false_eq_true, Bool.true_eq_false, false_implies, implies_true, forall_const, true_implies, true_and, and_true, and_self, true_or, or_true, false_or, or_false, Value.category, List.length_cons, List.length_nil, Option.toList_some, Option.toList_none, List.cons_append, List.nil_append, List.append_nil, Prod.mk.injEq, Nat.add_zero, Nat.zero_add, Nat.reduceAdd, Nat.reduceSub, Nat.reduceEqDiff, Nat.reduceLeDiff, Nat.reduceLT, Nat.le_refl, beq_self_eq_true, Nat.reduceBEq, ne_eq, not_true_eq_false, not_false_eq_true, Int32.reduceAdd, Int32.reduceSub, Int32.reduceMul, Int32.reduceLE, Int32.reduceLT, Int32.reduceToNatClampNeg, b01_0, b01_1, ne_2_0, ne_3_0, ne_4_0, ne_5_0, ne_6_0, ne_m1_0, ne_m2_0, b01_01, b01_n, lt_m2, lt_m1, le_m2, le_m1, Classical.not_not, Bool.or_false, Bool.false_or, Bool.true_or, Bool.or_true, j_CP_meetings_0, b_CP_meetings_0, j_CP_meetings_21, b_CP_meetings_21, j_CP_meetings_22, b_CP_meetings_22, an_0, an_1, ne_0_1, ne_0_m1, ne_1_0, ne_1_m1, ne_m1_0, ne_m1_1, pp_0_11, pp_0_7, sh_0, sh_15, sh_40]
    refine mid_i ?_
    refine c_Mod_meetings (iv_n6 b1) (iv_n b1) ?_ ?_
    · intro _
      exact fin_i (iv_mts b1) (iv_rg h0)
    · intro e
      exact absurd e (iv_p1 b1 hn)
  · intro hn
    simp only [cp_kk, cp_vc, cp_vs, cp_jm, cp_ent_en, cp_en_int, cp_en_ref, cp_en_ret, cp_en_long, cp_en_nil, cp_s1_at, cp_s2_at, cp_nl_int, cp_nl_ref, cp_nl_long, cp_nl_none, cp_pop_0, cp_pop_s, reduceIte, if_true, if_false, Bool.false_eq_true, Bool.true_eq_false, false_implies, implies_true, forall_const, true_implies, true_and, and_true, and_self, true_or, or_true, false_or, or_false, Value.category, List.length_cons, List.length_nil, Option.toList_some, Option.toList_none, List.cons_append, List.nil_append, List.append_nil, Prod.mk.injEq, Nat.add_zero, Nat.zero_add, Nat.reduceAdd, Nat.reduceSub, Nat.reduceEqDiff, Nat.reduceLeDiff, Nat.reduceLT, Nat.le_refl, beq_self_eq_true, Nat.reduceBEq, ne_eq, not_true_eq_false, not_false_eq_true, Int32.reduceAdd, Int32.reduceSub, Int32.reduceMul, Int32.reduceLE, Int32.reduceLT, Int32.reduceToNatClampNeg, b01_0, b01_1, ne_2_0, ne_3_0, ne_4_0, ne_5_0, ne_6_0, ne_m1_0, ne_m2_0, b01_01, b01_n, lt_m2, lt_m1, le_m2, le_m1, Classical.not_not, Bool.or_false, Bool.false_or, Bool.true_or, Bool.or_true, j_CP_meetings_0, b_CP_meetings_0, j_CP_meetings_21, b_CP_meetings_21, j_CP_meetings_22, b_CP_meetings_22, an_0, an_1, ne_0_1, ne_0_m1, ne_1_0, ne_1_m1, ne_m1_0, ne_m1_1, pp_0_11, pp_0_7, sh_0, sh_15, sh_40]
    refine mid_i ?_
    refine c_Mod_meetings (iv_n6 b0) (iv_n b0) ?_ ?_
    · intro e
      exact absurd (iv_p0 b0 hn) e
    · intro _
      exact fin_i rfl (iv_rn h0 n14)
theorem pr_toSend (h : Iv I t u) : PR g d m_CP_toSend m_Mod_toSend [] I J t u r x := by
  obtain ⟨⟨n, s, m, h0⟩, -, -⟩ := h
  have hB := h0.1
  have b0 := (iv_rf h0 1).1
  have b1 := (iv_rf h0 0).1
  unfold PR
  refine MW.of ok_CP_toSend (Nat.le_of_ble_eq_true rfl) ?_
  refine cp_run 40 (fun _ => false) ck_CP_toSend ?_
  simp only [cp_vc, cp_vs, cp_jm, cp_ent_en, cp_en_int, cp_en_ref, cp_en_ret, cp_en_long, cp_en_nil, cp_s1_at, cp_s2_at, cp_nl_int, cp_nl_ref, cp_nl_long, cp_nl_none, cp_pop_0, cp_pop_s, reduceIte, if_true, if_false, Bool.false_eq_true, Bool.true_eq_false, false_implies, implies_true, forall_const, true_implies, true_and, and_true, and_self, true_or, or_true, false_or, or_false, Value.category, List.length_cons, List.length_nil, Option.toList_some, Option.toList_none, List.cons_append, List.nil_append, List.append_nil, Prod.mk.injEq, Nat.add_zero, Nat.zero_add, Nat.reduceAdd, Nat.reduceSub, Nat.reduceEqDiff, Nat.reduceLeDiff, Nat.reduceLT, Nat.le_refl, beq_self_eq_true, Nat.reduceBEq, ne_eq, not_true_eq_false, not_false_eq_true, Int32.reduceAdd, Int32.reduceSub, Int32.reduceMul, Int32.reduceLE, Int32.reduceLT, Int32.reduceToNatClampNeg, b01_0, b01_1, ne_2_0, ne_3_0, ne_4_0, ne_5_0, ne_6_0, ne_m1_0, ne_m2_0, b01_01, b01_n, lt_m2, lt_m1, le_m2, le_m1, Classical.not_not, j_CP_toSend_0, b_CP_toSend_0, j_CP_toSend_28, b_CP_toSend_28, j_CP_toSend_29, b_CP_toSend_29, an_0, an_1, ne_0_1, ne_0_m1, ne_1_0, ne_1_m1, ne_m1_0, ne_m1_1, pp_0_7, pp_0_9, sh_0, sh_15, sh_37]
  refine c_CP_isTold (n := n) (iv_tk hB) (iv_n6 hB) (iv_cn hB) ?_ ?_
  · intro hn
    simp only [cp_kk, cp_vc, cp_vs, cp_jm, cp_ent_en, cp_en_int, cp_en_ref, cp_en_ret, cp_en_long, cp_en_nil, cp_s1_at, cp_s2_at, cp_nl_int, cp_nl_ref, cp_nl_long, cp_nl_none, cp_pop_0, cp_pop_s, reduceIte, if_true, if_false, Bool.false_eq_true, Bool.true_eq_false, false_implies, implies_true, forall_const, true_implies, true_and, and_true, and_self, true_or, or_true, false_or, or_false, Value.category, List.length_cons, List.length_nil, Option.toList_some, Option.toList_none, List.cons_append, List.nil_append, List.append_nil, Prod.mk.injEq, Nat.add_zero, Nat.zero_add, Nat.reduceAdd, Nat.reduceSub, Nat.reduceEqDiff, Nat.reduceLeDiff, Nat.reduceLT, Nat.le_refl, beq_self_eq_true, Nat.reduceBEq, ne_eq, not_true_eq_false, not_false_eq_true, Int32.reduceAdd, Int32.reduceSub, Int32.reduceMul, Int32.reduceLE, Int32.reduceLT, Int32.reduceToNatClampNeg, b01_0, b01_1, ne_2_0, ne_3_0, ne_4_0, ne_5_0, ne_6_0, ne_m1_0, ne_m2_0, b01_01, b01_n, lt_m2, lt_m1, le_m2, le_m1, Classical.not_not, Bool.or_false, Bool.false_or, Bool.true_or, Bool.or_true, j_CP_toSend_0, b_CP_toSend_0, j_CP_toSend_28, b_CP_toSend_28, j_CP_toSend_29, b_CP_toSend_29, an_0, an_1, ne_0_1, ne_0_m1, ne_1_0, ne_1_m1, ne_m1_0, ne_m1_1, pp_0_7, pp_0_9, sh_0, sh_15, sh_37, iv_in b1]
    refine c_Comp_change (iv_cT b1) (iv_64 b1) (iv_64 b1) (iv_in b1) ?_
    simp only [cp_kk, cp_vc, cp_vs, cp_jm, cp_ent_en, cp_en_int, cp_en_ref, cp_en_ret, cp_en_long, cp_en_nil, cp_s1_at, cp_s2_at, cp_nl_int, cp_nl_ref, cp_nl_long, cp_nl_none, cp_pop_0, cp_pop_s, reduceIte, if_true, if_false, Bool.false_eq_true, Bool.true_eq_false, false_implies, implies_true, forall_const, true_implies, true_and, and_true, and_self, true_or, or_true, false_or, or_false, Value.category, List.length_cons, List.length_nil, Option.toList_some, Option.toList_none, List.cons_append, List.nil_append, List.append_nil, Prod.mk.injEq, Nat.add_zero, Nat.zero_add, Nat.reduceAdd, Nat.reduceSub, Nat.reduceEqDiff, Nat.reduceLeDiff, Nat.reduceLT, Nat.le_refl, beq_self_eq_true, Nat.reduceBEq, ne_eq, not_true_eq_false, not_false_eq_true, Int32.reduceAdd, Int32.reduceSub, Int32.reduceMul, Int32.reduceLE, Int32.reduceLT, Int32.reduceToNatClampNeg, b01_0, b01_1, ne_2_0, ne_3_0, ne_4_0, ne_5_0, ne_6_0, ne_m1_0, ne_m2_0, b01_01, b01_n, lt_m2, lt_m1, le_m2, le_m1, Classical.not_not, Bool.or_false, Bool.false_or, Bool.true_or, Bool.or_true, j_CP_toSend_0, b_CP_toSend_0, j_CP_toSend_28, b_CP_toSend_28, j_CP_toSend_29, b_CP_toSend_29, an_0, an_1, ne_0_1, ne_0_m1, ne_1_0, ne_1_m1, ne_m1_0, ne_m1_1, pp_0_7, pp_0_9, sh_0, sh_15, sh_37]
    refine mid_i ?_
    refine c_Mod_toSend (iv_n6 b1) (iv_n b1) (iv_64 b1) (iv_st b1) ?_ ?_
    · intro _
      exact fin_i (iv_chg b1 s) (iv_rg h0)
    · intro e
      exact absurd e (iv_p1 b1 hn)
  · intro hn
    simp only [cp_kk, cp_vc, cp_vs, cp_jm, cp_ent_en, cp_en_int, cp_en_ref, cp_en_ret, cp_en_long, cp_en_nil, cp_s1_at, cp_s2_at, cp_nl_int, cp_nl_ref, cp_nl_long, cp_nl_none, cp_pop_0, cp_pop_s, reduceIte, if_true, if_false, Bool.false_eq_true, Bool.true_eq_false, false_implies, implies_true, forall_const, true_implies, true_and, and_true, and_self, true_or, or_true, false_or, or_false, Value.category, List.length_cons, List.length_nil, Option.toList_some, Option.toList_none, List.cons_append, List.nil_append, List.append_nil, Prod.mk.injEq, Nat.add_zero, Nat.zero_add, Nat.reduceAdd, Nat.reduceSub, Nat.reduceEqDiff, Nat.reduceLeDiff, Nat.reduceLT, Nat.le_refl, beq_self_eq_true, Nat.reduceBEq, ne_eq, not_true_eq_false, not_false_eq_true, Int32.reduceAdd, Int32.reduceSub, Int32.reduceMul, Int32.reduceLE, Int32.reduceLT, Int32.reduceToNatClampNeg, b01_0, b01_1, ne_2_0, ne_3_0, ne_4_0, ne_5_0, ne_6_0, ne_m1_0, ne_m2_0, b01_01, b01_n, lt_m2, lt_m1, le_m2, le_m1, Classical.not_not, Bool.or_false, Bool.false_or, Bool.true_or, Bool.or_true, j_CP_toSend_0, b_CP_toSend_0, j_CP_toSend_28, b_CP_toSend_28, j_CP_toSend_29, b_CP_toSend_29, an_0, an_1, ne_0_1, ne_0_m1, ne_1_0, ne_1_m1, ne_m1_0, ne_m1_1, pp_0_7, pp_0_9, sh_0, sh_15, sh_37]
    refine mid_i ?_
    refine c_Mod_toSend (iv_n6 b0) (iv_n b0) (iv_64 b0) (iv_st b0) ?_ ?_
    · intro e
      exact absurd (iv_p0 b0 hn) e
    · intro _
      exact fin_i rfl (iv_rn h0 n14)
end Pr1
