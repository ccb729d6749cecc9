section Pr8
variable {g : cp_G} {d : Nat} {I M N : cp_I} {J : cp_J} {Q : cp_QT} {t u r x : Nat}
theorem pr_mean {w : Int32} (h : Iv I t u) : PL g d m_CP_mean m_Mod_mean [.int w] I J t u r x := by
  obtain ⟨⟨n, s, m, h0⟩, -, -⟩ := h
  have hB := h0.1
  have b0 := (iv_rf h0 1).1
  have b1 := (iv_rf h0 0).1
  obtain ⟨v, v1, v2, v3⟩ := iv_v b1
  obtain ⟨v', v1', v2', -⟩ := iv_v b0
  unfold PL
  refine MW.of ok_CP_mean (Nat.le_of_ble_eq_true rfl) ?_
  refine cp_run 40 (fun _ => false) ck_CP_mean ?_
  simp only [cp_vc, cp_vs, cp_jm, cp_ent_en, cp_en_int, cp_en_ref, cp_en_ret, cp_en_long, cp_en_nil, cp_s1_at, cp_s2_at, cp_nl_int, cp_nl_ref, cp_nl_long, cp_nl_none, cp_pop_0, cp_pop_s, reduceIte, if_true, if_false, Bool.false_eq_true, Bool.true_eq_false, false_implies, implies_true, forall_const, true_implies, true_and, and_true, and_self, true_or, or_true, false_or, or_false, Value.category, List.length_cons, List.length_nil, Option.toList_some, Option.toList_none, List.cons_append, List.nil_append, List.append_nil, Prod.mk.injEq, Nat.add_zero, Nat.zero_add, Nat.reduceAdd, Nat.reduceSub, Nat.reduceEqDiff, Nat.reduceLeDiff, Nat.reduceLT, Nat.le_refl, beq_self_eq_true, Nat.reduceBEq, ne_eq, not_true_eq_false, not_false_eq_true, Int32.reduceAdd, Int32.reduceSub, Int32.reduceMul, Int32.reduceLE, Int32.reduceLT, Int32.reduceToNatClampNeg, b01_0, b01_1, ne_2_0, ne_3_0, ne_4_0, ne_5_0, ne_6_0, ne_m1_0, ne_m2_0, b01_01, b01_n, lt_m2, lt_m1, le_m2, le_m1, Classical.not_not, j_CP_mean_0, b_CP_mean_0, j_CP_mean_22, b_CP_mean_22, j_CP_mean_25, b_CP_mean_25, an_0, an_1, ne_0_1, ne_1_0, pp_0_13, pp_0_7, sh_0, sh_15, sh_43]
  refine c_CP_isTold (n := n) (iv_tk hB) (iv_n6 hB) (iv_cn hB) ?_ ?_
  · intro hn
    simp only [cp_kk, cp_vc, cp_vs, cp_jm, cp_ent_en, cp_en_int, cp_en_ref, cp_en_ret, cp_en_long, cp_en_nil, cp_s1_at, cp_s2_at, cp_nl_int, cp_nl_ref, cp_nl_long, cp_nl_none, cp_pop_0, cp_pop_s, reduceIte, if_true, if_false, Bool.false_eq_true, Bool.true_eq_false, false_implies, implies_true, forall_const, true_implies, true_and, and_true, and_self, true_or, or_true, false_or, or_false, Value.category, List.length_cons, List.length_nil, Option.toList_some, Option.toList_none, List.cons_append, List.nil_append, List.append_nil, Prod.mk.injEq, Nat.add_zero, Nat.zero_add, Nat.reduceAdd, Nat.reduceSub, Nat.reduceEqDiff, Nat.reduceLeDiff, Nat.reduceLT, Nat.le_refl, beq_self_eq_true, Nat.reduceBEq, ne_eq, not_true_eq_false, not_false_eq_true, Int32.reduceAdd, Int32.reduceSub, Int32.reduceMul, Int32.reduceLE, Int32.reduceLT, Int32.reduceToNatClampNeg, b01_0, b01_1, ne_2_0, ne_3_0, ne_4_0, ne_5_0, ne_6_0, ne_m1_0, ne_m2_0, b01_01, b01_n, lt_m2, lt_m1, le_m2, le_m1, Classical.not_not, Bool.or_false, Bool.false_or, Bool.true_or, Bool.or_true, j_CP_mean_0, b_CP_mean_0, j_CP_mean_22, b_CP_mean_22, j_CP_mean_25, b_CP_mean_25, an_0, an_1, ne_0_1, ne_1_0, pp_0_13, pp_0_7, sh_0, sh_15, sh_43]
    refine c_Vis_mean (iv_cT b1) v1 v3 (by rw [iv_mean b1]; exact (rvq_le (rfu I 0) (iv_n6 b1) v1).2.2.1) ?_
    simp only [cp_kk, cp_vc, cp_vs, cp_jm, cp_ent_en, cp_en_int, cp_en_ref, cp_en_ret, cp_en_long, cp_en_nil, cp_s1_at, cp_s2_at, cp_nl_int, cp_nl_ref, cp_nl_long, cp_nl_none, cp_pop_0, cp_pop_s, reduceIte, if_true, if_false, Bool.false_eq_true, Bool.true_eq_false, false_implies, implies_true, forall_const, true_implies, true_and, and_true, and_self, true_or, or_true, false_or, or_false, Value.category, List.length_cons, List.length_nil, Option.toList_some, Option.toList_none, List.cons_append, List.nil_append, List.append_nil, Prod.mk.injEq, Nat.add_zero, Nat.zero_add, Nat.reduceAdd, Nat.reduceSub, Nat.reduceEqDiff, Nat.reduceLeDiff, Nat.reduceLT, Nat.le_refl, beq_self_eq_true, Nat.reduceBEq, ne_eq, not_true_eq_false, not_false_eq_true, Int32.reduceAdd, Int32.reduceSub, Int32.reduceMul, Int32.reduceLE, Int32.reduceLT, Int32.reduceToNatClampNeg, b01_0, b01_1, ne_2_0, ne_3_0, ne_4_0, ne_5_0, ne_6_0, ne_m1_0, ne_m2_0, b01_01, b01_n, lt_m2, lt_m1, le_m2, le_m1, Classical.not_not, Bool.or_false, Bool.false_or, Bool.true_or, Bool.or_true, j_CP_mean_0, b_CP_mean_0, j_CP_mean_22, b_CP_mean_22, j_CP_mean_25, b_CP_mean_25, an_0, an_1, ne_0_1, ne_1_0, pp_0_13, pp_0_7, sh_0, sh_15, sh_43]
    refine mid_l ?_
    refine c_Mod_mean (iv_n6 b1) (iv_n b1) v1 v2 ?_ ?_
    · intro _
      exact fin_l (by rw [iv_mean b1, iv_dn (iv_n6 b1) v1]) (iv_rg h0)
    · intro e
      exact absurd e (iv_p1 b1 hn)
  · intro hn
    simp only [cp_kk, cp_vc, cp_vs, cp_jm, cp_ent_en, cp_en_int, cp_en_ref, cp_en_ret, cp_en_long, cp_en_nil, cp_s1_at, cp_s2_at, cp_nl_int, cp_nl_ref, cp_nl_long, cp_nl_none, cp_pop_0, cp_pop_s, reduceIte, if_true, if_false, Bool.false_eq_true, Bool.true_eq_false, false_implies, implies_true, forall_const, true_implies, true_and, and_true, and_self, true_or, or_true, false_or, or_false, Value.category, List.length_cons, List.length_nil, Option.toList_some, Option.toList_none, List.cons_append, List.nil_append, List.append_nil, Prod.mk.injEq, Nat.add_zero, Nat.zero_add, Nat.reduceAdd, Nat.reduceSub, Nat.reduceEqDiff, Nat.reduceLeDiff, Nat.reduceLT, Nat.le_refl, beq_self_eq_true, Nat.reduceBEq, ne_eq, not_true_eq_false, not_false_eq_true, Int32.reduceAdd, Int32.reduceSub, Int32.reduceMul, Int32.reduceLE, Int32.reduceLT, Int32.reduceToNatClampNeg, b01_0, b01_1, ne_2_0, ne_3_0, ne_4_0, ne_5_0, ne_6_0, ne_m1_0, ne_m2_0, b01_01, b01_n, lt_m2, lt_m1, le_m2, le_m1, Classical.not_not, Bool.or_false, Bool.false_or, Bool.true_or, Bool.or_true, j_CP_mean_0, b_CP_mean_0, j_CP_mean_22, b_CP_mean_22, j_CP_mean_25, b_CP_mean_25, an_0, an_1, ne_0_1, ne_1_0, pp_0_13, pp_0_7, sh_0, sh_15, sh_43]
    refine mid_l ?_
    refine c_Mod_mean (iv_n6 b0) (iv_n b0) v1' v2' ?_ ?_
    · intro e
      exact absurd (iv_p0 b0 hn) e
    · intro _
      exact fin_l rfl (iv_rn h0 n14)
theorem pr_icy {w : Int32} (h : Iv I t u) : PL g d m_CP_icy m_Mod_icy [.int w] I J t u r x := by
  obtain ⟨⟨n, s, m, h0⟩, -, -⟩ := h
  have hB := h0.1
  have b0 := (iv_rf h0 1).1
  have b1 := (iv_rf h0 0).1
  obtain ⟨v, v1, v2, v3⟩ := iv_v b1
  obtain ⟨v', v1', v2', -⟩ := iv_v b0
  unfold PL
  refine MW.of ok_CP_icy (Nat.le_of_ble_eq_true rfl) ?_
  refine cp_run 40 (fun _ => false) ck_CP_icy ?_
  simp only [cp_vc, cp_vs, cp_jm, cp_ent_en, cp_en_int, cp_en_ref, cp_en_ret, cp_en_long, cp_en_nil, cp_s1_at, cp_s2_at, cp_nl_int, cp_nl_ref, cp_nl_long, cp_nl_none, cp_pop_0, cp_pop_s, reduceIte, if_true, if_false, Bool.false_eq_true, Bool.true_eq_false, false_implies, implies_true, forall_const, true_implies, true_and, and_true, and_self, true_or, or_true, false_or, or_false, Value.category, List.length_cons, List.length_nil, Option.toList_some, Option.toList_none, List.cons_append, List.nil_append, List.append_nil, Prod.mk.injEq, Nat.add_zero, Nat.zero_add, Nat.reduceAdd, Nat.reduceSub, Nat.reduceEqDiff, Nat.reduceLeDiff, Nat.reduceLT, Nat.le_refl, beq_self_eq_true, Nat.reduceBEq, ne_eq, not_true_eq_false, not_false_eq_true, Int32.reduceAdd, Int32.reduceSub, Int32.reduceMul, Int32.reduceLE, Int32.reduceLT, Int32.reduceToNatClampNeg, b01_0, b01_1, ne_2_0, ne_3_0, ne_4_0, ne_5_0, ne_6_0, ne_m1_0, ne_m2_0, b01_01, b01_n, lt_m2, lt_m1, le_m2, le_m1, Classical.not_not, j_CP_icy_0, b_CP_icy_0, j_CP_icy_22, b_CP_icy_22, j_CP_icy_25, b_CP_icy_25, an_0, an_1, ne_0_1, ne_1_0, pp_0_13, pp_0_7, sh_0, sh_15, sh_43]
  refine c_CP_isTold (n := n) (iv_tk hB) (iv_n6 hB) (iv_cn hB) ?_ ?_
  · intro hn
    simp only [cp_kk, cp_vc, cp_vs, cp_jm, cp_ent_en, cp_en_int, cp_en_ref, cp_en_ret, cp_en_long, cp_en_nil, cp_s1_at, cp_s2_at, cp_nl_int, cp_nl_ref, cp_nl_long, cp_nl_none, cp_pop_0, cp_pop_s, reduceIte, if_true, if_false, Bool.false_eq_true, Bool.true_eq_false, false_implies, implies_true, forall_const, true_implies, true_and, and_true, and_self, true_or, or_true, false_or, or_false, Value.category, List.length_cons, List.length_nil, Option.toList_some, Option.toList_none, List.cons_append, List.nil_append, List.append_nil, Prod.mk.injEq, Nat.add_zero, Nat.zero_add, Nat.reduceAdd, Nat.reduceSub, Nat.reduceEqDiff, Nat.reduceLeDiff, Nat.reduceLT, Nat.le_refl, beq_self_eq_true, Nat.reduceBEq, ne_eq, not_true_eq_false, not_false_eq_true, Int32.reduceAdd, Int32.reduceSub, Int32.reduceMul, Int32.reduceLE, Int32.reduceLT, Int32.reduceToNatClampNeg, b01_0, b01_1, ne_2_0, ne_3_0, ne_4_0, ne_5_0, ne_6_0, ne_m1_0, ne_m2_0, b01_01, b01_n, lt_m2, lt_m1, le_m2, le_m1, Classical.not_not, Bool.or_false, Bool.false_or, Bool.true_or, Bool.or_true, j_CP_icy_0, b_CP_icy_0, j_CP_icy_22, b_CP_icy_22, j_CP_icy_25, b_CP_icy_25, an_0, an_1, ne_0_1, ne_1_0, pp_0_13, pp_0_7, sh_0, sh_15, sh_43]
    refine c_Vis_icy (iv_cT b1) v1 v3 (by rw [iv_icy b1]; exact (rvq_le (rfu I 0) (iv_n6 b1) v1).2.2.2) ?_
    simp only [cp_kk, cp_vc, cp_vs, cp_jm, cp_ent_en, cp_en_int, cp_en_ref, cp_en_ret, cp_en_long, cp_en_nil, cp_s1_at, cp_s2_at, cp_nl_int, cp_nl_ref, cp_nl_long, cp_nl_none, cp_pop_0, cp_pop_s, reduceIte, if_true, if_false, Bool.false_eq_true, Bool.true_eq_false, false_implies, implies_true, forall_const, true_implies, true_and, and_true, and_self, true_or, or_true, false_or, or_false, Value.category, List.length_cons, List.length_nil, Option.toList_some, Option.toList_none, List.cons_append, List.nil_append, List.append_nil, Prod.mk.injEq, Nat.add_zero, Nat.zero_add, Nat.reduceAdd, Nat.reduceSub, Nat.reduceEqDiff, Nat.reduceLeDiff, Nat.reduceLT, Nat.le_refl, beq_self_eq_true, Nat.reduceBEq, ne_eq, not_true_eq_false, not_false_eq_true, Int32.reduceAdd, Int32.reduceSub, Int32.reduceMul, Int32.reduceLE, Int32.reduceLT, Int32.reduceToNatClampNeg, b01_0, b01_1, ne_2_0, ne_3_0, ne_4_0, ne_5_0, ne_6_0, ne_m1_0, ne_m2_0, b01_01, b01_n, lt_m2, lt_m1, le_m2, le_m1, Classical.not_not, Bool.or_false, Bool.false_or, Bool.true_or, Bool.or_true, j_CP_icy_0, b_CP_icy_0, j_CP_icy_22, b_CP_icy_22, j_CP_icy_25, b_CP_icy_25, an_0, an_1, ne_0_1, ne_1_0, pp_0_13, pp_0_7, sh_0, sh_15, sh_43]
    refine mid_l ?_
    refine c_Mod_icy (iv_n6 b1) (iv_n b1) v1 v2 ?_ ?_
    · intro _
      exact fin_l (by rw [iv_icy b1, iv_dn (iv_n6 b1) v1]) (iv_rg h0)
    · intro e
      exact absurd e (iv_p1 b1 hn)
  · intro hn
    simp only [cp_kk, cp_vc, cp_vs, cp_jm, cp_ent_en, cp_en_int, cp_en_ref, cp_en_ret, cp_en_long, cp_en_nil, cp_s1_at, cp_s2_at, cp_nl_int, cp_nl_ref, cp_nl_long, cp_nl_none, cp_pop_0, cp_pop_s, reduceIte, if_true, if_false, Bool.false_eq_true, Bool.true_eq_false, false_implies, implies_true, forall_const, true_implies, true_and, and_true, and_self, true_or, or_true, false_or, or_false, Value.category, List.length_cons, List.length_nil, Option.toList_some, Option.toList_none, List.cons_append, List.nil_append, List.append_nil, Prod.mk.injEq, Nat.add_zero, Nat.zero_add, Nat.reduceAdd, Nat.reduceSub, Nat.reduceEqDiff, Nat.reduceLeDiff, Nat.reduceLT, Nat.le_refl, beq_self_eq_true, Nat.reduceBEq, ne_eq, not_true_eq_false, not_false_eq_true, Int32.reduceAdd, Int32.reduceSub, Int32.reduceMul, Int32.reduceLE, Int32.reduceLT, Int32.reduceToNatClampNeg, b01_0, b01_1, ne_2_0, ne_3_0, ne_4_0, ne_5_0, ne_6_0, ne_m1_0, ne_m2_0, b01_01, b01_n, lt_m2, lt_m1, le_m2, le_m1, Classical.not_not, Bool.or_false, Bool.false_or, Bool.true_or, Bool.or_true, j_CP_icy_0, b_CP_icy_0, j_CP_icy_22, b_CP_icy_22, j_CP_icy_25, b_CP_icy_25, an_0, an_1, ne_0_1, ne_1_0, pp_0_13, pp_0_7, sh_0, sh_15, sh_43]
    refine mid_l ?_
    refine c_Mod_icy (iv_n6 b0) (iv_n b0) v1' v2' ?_ ?_
    · intro e
      exact absurd (iv_p0 b0 hn) e
    · intro _
      exact fin_l rfl (iv_rn h0 n14)
theorem pr_odds {bb w : Int32} (h : Iv I t u) : PL g d m_CP_odds m_Mod_odds [.int bb, .int w] I J t u r x := by
  obtain ⟨⟨n, s, m, h0⟩, -, -⟩ := h
  have hB := h0.1
  have b0 := (iv_rf h0 1).1
  have b1 := (iv_rf h0 0).1
  obtain ⟨v, v1, v2, v3⟩ := iv_v b1
  obtain ⟨v', v1', v2', -⟩ := iv_v b0
  unfold PL
  refine MW.of ok_CP_odds (Nat.le_of_ble_eq_true rfl) ?_
  refine cp_run 40 (fun _ => false) ck_CP_odds ?_
  simp only [cp_vc, cp_vs, cp_jm, cp_ent_en, cp_en_int, cp_en_ref, cp_en_ret, cp_en_long, cp_en_nil, cp_s1_at, cp_s2_at, cp_nl_int, cp_nl_ref, cp_nl_long, cp_nl_none, cp_pop_0, cp_pop_s, reduceIte, if_true, if_false, Bool.false_eq_true, Bool.true_eq_false, false_implies, implies_true, forall_const, true_implies, true_and, and_true, and_self, true_or, or_true, false_or, or_false, Value.category, List.length_cons, List.length_nil, Option.toList_some, Option.toList_none, List.cons_append, List.nil_append, List.append_nil, Prod.mk.injEq, Nat.add_zero, Nat.zero_add, Nat.reduceAdd, Nat.reduceSub, Nat.reduceEqDiff, Nat.reduceLeDiff, Nat.reduceLT, Nat.le_refl, beq_self_eq_true, Nat.reduceBEq, ne_eq, not_true_eq_false, not_false_eq_true, Int32.reduceAdd, Int32.reduceSub, Int32.reduceMul, Int32.reduceLE, Int32.reduceLT, Int32.reduceToNatClampNeg, b01_0, b01_1, ne_2_0, ne_3_0, ne_4_0, ne_5_0, ne_6_0, ne_m1_0, ne_m2_0, b01_01, b01_n, lt_m2, lt_m1, le_m2, le_m1, Classical.not_not, j_CP_odds_0, b_CP_odds_0, j_CP_odds_24, b_CP_odds_24, j_CP_odds_27, b_CP_odds_27, an_0, an_1, ne_0_1, ne_1_0, pp_0_13, pp_0_7, sh_0, sh_15, sh_43]
  refine c_CP_isBather (n := n) (iv_tk hB) (iv_n6 hB) (iv_cn hB) ?_ ?_
  · intro b hb hbb
    subst hbb
    have h6 := iv_n6 hB
    simp only [cp_kk, cp_vc, cp_vs, cp_jm, cp_ent_en, cp_en_int, cp_en_ref, cp_en_ret, cp_en_long, cp_en_nil, cp_s1_at, cp_s2_at, cp_nl_int, cp_nl_ref, cp_nl_long, cp_nl_none, cp_pop_0, cp_pop_s, reduceIte, if_true, if_false, Bool.false_eq_true, Bool.true_eq_false, false_implies, implies_true, forall_const, true_implies, true_and, and_true, and_self, true_or, or_true, false_or, or_false, Value.category, List.length_cons, List.length_nil, Option.toList_some, Option.toList_none, List.cons_append, List.nil_append, List.append_nil, Prod.mk.injEq, Nat.add_zero, Nat.zero_add, Nat.reduceAdd, Nat.reduceSub, Nat.reduceEqDiff, Nat.reduceLeDiff, Nat.reduceLT, Nat.le_refl, beq_self_eq_true, Nat.reduceBEq, ne_eq, not_true_eq_false, not_false_eq_true, Int32.reduceAdd, Int32.reduceSub, Int32.reduceMul, Int32.reduceLE, Int32.reduceLT, Int32.reduceToNatClampNeg, b01_0, b01_1, ne_2_0, ne_3_0, ne_4_0, ne_5_0, ne_6_0, ne_m1_0, ne_m2_0, b01_01, b01_n, lt_m2, lt_m1, le_m2, le_m1, Classical.not_not, Bool.or_false, Bool.false_or, Bool.true_or, Bool.or_true, j_CP_odds_0, b_CP_odds_0, j_CP_odds_24, b_CP_odds_24, j_CP_odds_27, b_CP_odds_27, an_0, an_1, ne_0_1, ne_1_0, pp_0_13, pp_0_7, sh_0, sh_15, sh_43]
    refine c_Vis_odds (o := oth n b) (iv_cT b1) v1 v3 hb rfl (by rw [iv_odds b1 hb]; exact (rvq_le (rfu I 0) (iv_n6 b1) v1).2.1) ?_
    simp only [cp_kk, cp_vc, cp_vs, cp_jm, cp_ent_en, cp_en_int, cp_en_ref, cp_en_ret, cp_en_long, cp_en_nil, cp_s1_at, cp_s2_at, cp_nl_int, cp_nl_ref, cp_nl_long, cp_nl_none, cp_pop_0, cp_pop_s, reduceIte, if_true, if_false, Bool.false_eq_true, Bool.true_eq_false, false_implies, implies_true, forall_const, true_implies, true_and, and_true, and_self, true_or, or_true, false_or, or_false, Value.category, List.length_cons, List.length_nil, Option.toList_some, Option.toList_none, List.cons_append, List.nil_append, List.append_nil, Prod.mk.injEq, Nat.add_zero, Nat.zero_add, Nat.reduceAdd, Nat.reduceSub, Nat.reduceEqDiff, Nat.reduceLeDiff, Nat.reduceLT, Nat.le_refl, beq_self_eq_true, Nat.reduceBEq, ne_eq, not_true_eq_false, not_false_eq_true, Int32.reduceAdd, Int32.reduceSub, Int32.reduceMul, Int32.reduceLE, Int32.reduceLT, Int32.reduceToNatClampNeg, b01_0, b01_1, ne_2_0, ne_3_0, ne_4_0, ne_5_0, ne_6_0, ne_m1_0, ne_m2_0, b01_01, b01_n, lt_m2, lt_m1, le_m2, le_m1, Classical.not_not, Bool.or_false, Bool.false_or, Bool.true_or, Bool.or_true, j_CP_odds_0, b_CP_odds_0, j_CP_odds_24, b_CP_odds_24, j_CP_odds_27, b_CP_odds_27, an_0, an_1, ne_0_1, ne_1_0, pp_0_13, pp_0_7, sh_0, sh_15, sh_43]
    refine mid_l ?_
    refine c_Mod_odds (iv_n6 b1) (iv_n b1) v1 v2 ?_ ?_
    · intro b' _ e hb'
      have e' : b = b' := (nI_eq (by omega) (by omega)).1 e
      subst e'
      exact fin_l (by rw [iv_odds b1 hb, iv_dno (iv_n6 b1) hb v1]) (iv_rg h0)
    · intro e
      exact absurd (iv_isB b1 hb) e
  · intro hb
    simp only [cp_kk, cp_vc, cp_vs, cp_jm, cp_ent_en, cp_en_int, cp_en_ref, cp_en_ret, cp_en_long, cp_en_nil, cp_s1_at, cp_s2_at, cp_nl_int, cp_nl_ref, cp_nl_long, cp_nl_none, cp_pop_0, cp_pop_s, reduceIte, if_true, if_false, Bool.false_eq_true, Bool.true_eq_false, false_implies, implies_true, forall_const, true_implies, true_and, and_true, and_self, true_or, or_true, false_or, or_false, Value.category, List.length_cons, List.length_nil, Option.toList_some, Option.toList_none, List.cons_append, List.nil_append, List.append_nil, Prod.mk.injEq, Nat.add_zero, Nat.zero_add, Nat.reduceAdd, Nat.reduceSub, Nat.reduceEqDiff, Nat.reduceLeDiff, Nat.reduceLT, Nat.le_refl, beq_self_eq_true, Nat.reduceBEq, ne_eq, not_true_eq_false, not_false_eq_true, Int32.reduceAdd, Int32.reduceSub, Int32.reduceMul, Int32.reduceLE, Int32.reduceLT, Int32.reduceToNatClampNeg, b01_0, b01_1, ne_2_0, ne_3_0, ne_4_0, ne_5_0, ne_6_0, ne_m1_0, ne_m2_0, b01_01, b01_n, lt_m2, lt_m1, le_m2, le_m1, Classical.not_not, Bool.or_false, Bool.false_or, Bool.true_or, Bool.or_true, j_CP_odds_0, b_CP_odds_0, j_CP_odds_24, b_CP_odds_24, j_CP_odds_27, b_CP_odds_27, an_0, an_1, ne_0_1, ne_1_0, pp_0_13, pp_0_7, sh_0, sh_15, sh_43]
    refine mid_l ?_
    refine c_Mod_odds (iv_n6 b0) (iv_n b0) v1' v2' ?_ ?_
    · intro b e
      exact absurd e (iv_noB b0 hb)
    · intro _
      exact fin_l rfl (iv_rn h0 n14)
theorem kp_mom {w gn : Int32} {St : Nat → Int32} : kp I (mom I w gn St) := by
  refine ⟨fun a ha => funext fun j => ?_, fun j hj => ?_, fun j hj => ?_⟩
  · have := wc_ne ha
    unfold mom
    rw [if_neg (by omega), if_neg (by omega), if_neg (by omega)]
  · unfold k44 at hj
    unfold mom
    rw [if_neg (by omega), if_neg (by omega), if_neg (by omega)]
  · unfold mom
    rw [if_neg (by omega), if_neg (by omega), if_neg (by omega)]
theorem mom_o {w gn : Int32} {St : Nat → Int32} {j : Nat} (hj : j = 11) : mom I w gn St 44 j = I 44 j := by
  unfold mom
  rw [if_neg (by omega), if_neg (by omega), if_neg (by omega)]
theorem mom_0 {w gn : Int32} {St : Nat → Int32} {j : Nat} : mom I w gn St 0 j = I 0 j := by
  unfold mom
  rw [if_neg (by omega), if_neg (by omega), if_neg (by omega)]
theorem pr_mornings {bb sd N : Int32} (h : Iv I t u) : PR g d m_CP_mornings m_Mod_mornings [.int bb, .int sd, .int N] I J t u r x := by
  obtain ⟨⟨n, s, m, h0⟩, -, -⟩ := h
  have hB := h0.1
  have b0 := (iv_rf h0 1).1
  have b1 := (iv_rf h0 0).1
  have b2 := (iv_rf h0 2).1
  obtain ⟨v, v1, v2, v3⟩ := iv_v b1
  obtain ⟨v', v1', v2', -⟩ := iv_v b0
  obtain ⟨v'', v1'', v2'', -⟩ := iv_v b2
  unfold PR
  refine MW.of ok_CP_mornings (Nat.le_of_ble_eq_true rfl) ?_
  refine cp_run 40 (fun _ => false) ck_CP_mornings ?_
  simp only [cp_vc, cp_vs, cp_jm, cp_ent_en, cp_en_int, cp_en_ref, cp_en_ret, cp_en_long, cp_en_nil, cp_s1_at, cp_s2_at, cp_nl_int, cp_nl_ref, cp_nl_long, cp_nl_none, cp_pop_0, cp_pop_s, reduceIte, if_true, if_false, Bool.false_eq_true, Bool.true_eq_false, false_implies, implies_true, forall_const, true_implies, true_and, and_true, and_self, true_or, or_true, false_or, or_false, Value.category, List.length_cons, List.length_nil, Option.toList_some, Option.toList_none, List.cons_append, List.nil_append, List.append_nil, Prod.mk.injEq, Nat.add_zero, Nat.zero_add, Nat.reduceAdd, Nat.reduceSub, Nat.reduceEqDiff, Nat.reduceLeDiff, Nat.reduceLT, Nat.le_refl, beq_self_eq_true, Nat.reduceBEq, ne_eq, not_true_eq_false, not_false_eq_true, Int32.reduceAdd, Int32.reduceSub, Int32.reduceMul, Int32.reduceLE, Int32.reduceLT, Int32.reduceToNatClampNeg, b01_0, b01_1, ne_2_0, ne_3_0, ne_4_0, ne_5_0, ne_6_0, ne_m1_0, ne_m2_0, b01_01, b01_n, lt_m2, lt_m1, le_m2, le_m1, Classical.not_not, j_CP_mornings_0, b_CP_mornings_0, j_CP_mornings_34, b_CP_mornings_34, j_CP_mornings_35, b_CP_mornings_35, an_0, an_1, ne_0_1, ne_0_m1, ne_1_0, ne_1_m1, ne_m1_0, ne_m1_1, pp_0_13, pp_0_7, sh_0, sh_15, sh_43]
  refine c_CP_isBather (n := n) (iv_tk hB) (iv_n6 hB) (iv_cn hB) ?_ ?_
  · intro b hb hbb
    subst hbb
    have h6 := iv_n6 hB
    simp only [cp_kk, cp_vc, cp_vs, cp_jm, cp_ent_en, cp_en_int, cp_en_ref, cp_en_ret, cp_en_long, cp_en_nil, cp_s1_at, cp_s2_at, cp_nl_int, cp_nl_ref, cp_nl_long, cp_nl_none, cp_pop_0, cp_pop_s, reduceIte, if_true, if_false, Bool.false_eq_true, Bool.true_eq_false, false_implies, implies_true, forall_const, true_implies, true_and, and_true, and_self, true_or, or_true, false_or, or_false, Value.category, List.length_cons, List.length_nil, Option.toList_some, Option.toList_none, List.cons_append, List.nil_append, List.append_nil, Prod.mk.injEq, Nat.add_zero, Nat.zero_add, Nat.reduceAdd, Nat.reduceSub, Nat.reduceEqDiff, Nat.reduceLeDiff, Nat.reduceLT, Nat.le_refl, beq_self_eq_true, Nat.reduceBEq, ne_eq, not_true_eq_false, not_false_eq_true, Int32.reduceAdd, Int32.reduceSub, Int32.reduceMul, Int32.reduceLE, Int32.reduceLT, Int32.reduceToNatClampNeg, b01_0, b01_1, ne_2_0, ne_3_0, ne_4_0, ne_5_0, ne_6_0, ne_m1_0, ne_m2_0, b01_01, b01_n, lt_m2, lt_m1, le_m2, le_m1, Classical.not_not, Bool.or_false, Bool.false_or, Bool.true_or, Bool.or_true, j_CP_mornings_0, b_CP_mornings_0, j_CP_mornings_34, b_CP_mornings_34, j_CP_mornings_35, b_CP_mornings_35, an_0, an_1, ne_0_1, ne_0_m1, ne_1_0, ne_1_m1, ne_m1_0, ne_m1_1, pp_0_13, pp_0_7, sh_0, sh_15, sh_43]
    refine c_CP_areMornings (n := n) (iv_tk b1) (iv_n6 b1) (iv_cn b1) ?_ ?_ ?_
    · intro z k _ hz hk e1 e2
      subst e1
      subst e2
      rw [show rfu (rfu I 0) 0 = rfu I 0 from rfu_rfu]
      simp only [cp_kk, cp_vc, cp_vs, cp_jm, cp_ent_en, cp_en_int, cp_en_ref, cp_en_ret, cp_en_long, cp_en_nil, cp_s1_at, cp_s2_at, cp_nl_int, cp_nl_ref, cp_nl_long, cp_nl_none, cp_pop_0, cp_pop_s, reduceIte, if_true, if_false, Bool.false_eq_true, Bool.true_eq_false, false_implies, implies_true, forall_const, true_implies, true_and, and_true, and_self, true_or, or_true, false_or, or_false, Value.category, List.length_cons, List.length_nil, Option.toList_some, Option.toList_none, List.cons_append, List.nil_append, List.append_nil, Prod.mk.injEq, Nat.add_zero, Nat.zero_add, Nat.reduceAdd, Nat.reduceSub, Nat.reduceEqDiff, Nat.reduceLeDiff, Nat.reduceLT, Nat.le_refl, beq_self_eq_true, Nat.reduceBEq, ne_eq, not_true_eq_false, not_false_eq_true, Int32.reduceAdd, Int32.reduceSub, Int32.reduceMul, Int32.reduceLE, Int32.reduceLT, Int32.reduceToNatClampNeg, b01_0, b01_1, ne_2_0, ne_3_0, ne_4_0, ne_5_0, ne_6_0, ne_m1_0, ne_m2_0, b01_01, b01_n, lt_m2, lt_m1, le_m2, le_m1, Classical.not_not, Bool.or_false, Bool.false_or, Bool.true_or, Bool.or_true, j_CP_mornings_0, b_CP_mornings_0, j_CP_mornings_34, b_CP_mornings_34, j_CP_mornings_35, b_CP_mornings_35, an_0, an_1, ne_0_1, ne_0_m1, ne_1_0, ne_1_m1, ne_m1_0, ne_m1_1, pp_0_13, pp_0_7, sh_0, sh_15, sh_43]
      refine c_Vis_stays (iv_cT b1) v1 v3 (by omega) hk (by omega) ?_
      simp only [cp_kk, cp_vc, cp_vs, cp_jm, cp_ent_en, cp_en_int, cp_en_ref, cp_en_ret, cp_en_long, cp_en_nil, cp_s1_at, cp_s2_at, cp_nl_int, cp_nl_ref, cp_nl_long, cp_nl_none, cp_pop_0, cp_pop_s, reduceIte, if_true, if_false, Bool.false_eq_true, Bool.true_eq_false, false_implies, implies_true, forall_const, true_implies, true_and, and_true, and_self, true_or, or_true, false_or, or_false, Value.category, List.length_cons, List.length_nil, Option.toList_some, Option.toList_none, List.cons_append, List.nil_append, List.append_nil, Prod.mk.injEq, Nat.add_zero, Nat.zero_add, Nat.reduceAdd, Nat.reduceSub, Nat.reduceEqDiff, Nat.reduceLeDiff, Nat.reduceLT, Nat.le_refl, beq_self_eq_true, Nat.reduceBEq, ne_eq, not_true_eq_false, not_false_eq_true, Int32.reduceAdd, Int32.reduceSub, Int32.reduceMul, Int32.reduceLE, Int32.reduceLT, Int32.reduceToNatClampNeg, b01_0, b01_1, ne_2_0, ne_3_0, ne_4_0, ne_5_0, ne_6_0, ne_m1_0, ne_m2_0, b01_01, b01_n, lt_m2, lt_m1, le_m2, le_m1, Classical.not_not, Bool.or_false, Bool.false_or, Bool.true_or, Bool.or_true, j_CP_mornings_0, b_CP_mornings_0, j_CP_mornings_34, b_CP_mornings_34, j_CP_mornings_35, b_CP_mornings_35, an_0, an_1, ne_0_1, ne_0_m1, ne_1_0, ne_1_m1, ne_m1_0, ne_m1_1, pp_0_13, pp_0_7, sh_0, sh_15, sh_43]
      refine mid_i ?_
      generalize hX : (fo (cmo n v (fun s => if ((sp_stS (cs (rfu I 0)) (cb (rfu I 0) t n) 7 s).1).testBit b = true then 1 else 0)) k 0 (z, 0)).1 = X
      have kk : kp I (cp_u (rfu I 0) 43 0 (nI X)) := kp_u (kp_rfu kp_r 0) _ (by decide) (fun z => by omega) (fun z => by omega)
      have c1 := (iv_fr h0 kk).1
      have erb : rb (cp_u (rfu I 0) 43 0 (nI X)) n 49 = rb (rfu I 0) n 49 := rb_k (cp_u_o _ _ _ _ (by omega)) (cp_u_o _ _ _ _ (by omega))
      refine c_Mod_mornings (iv_n6 c1) (iv_n c1) (v := v) (by rw [cp_u_at, if_neg (by omega)]; exact v2) v1 ?_ ?_ ?_
      · intro b' z' k' _ e1 _ _ e2 e3 hz' hk'
        have e1' : b = b' := (nI_eq (by omega) (by omega)).1 e1
        have e2' : z = z' := (nI_eq (by omega) (by omega)).1 e2
        have e3' : k = k' := (nI_eq (by omega) (by omega)).1 e3
        subst e1'
        subst e2'
        subst e3'
        refine fin_i ?_ ?_
        · unfold rmo
          rw [erb, mo_rel hb k 0 (z, 0) _ rfl (by show ze6 _ 6 b = nI 0; unfold ze6; rw [if_pos (show b < 6 by omega)]; rfl), ← cmo_cong (f := fun s => if ((sp_stS (cs (rfu I 0)) (cb (rfu I 0) t n) 7 s).1).testBit b = true then 1 else 0) (fun y hy => by rw [iv_stS b1 7 y hy]) k 0 (z, 0)]
        · exact iv_gk h0 kk (by rw [cp_u_at, if_neg (by omega)]; exact rfu_2) kp_mom mom_0 (mom_o rfl)
      · intro _ e
        exact absurd (mgw_1 hz hk rfl rfl) e
      · intro e
        exact absurd (iv_isB c1 hb) e
    · intro _ hno
      rw [show rfu (rfu I 0) 2 = rfu I 2 from rfu_rfu]
      simp only [cp_kk, cp_vc, cp_vs, cp_jm, cp_ent_en, cp_en_int, cp_en_ref, cp_en_ret, cp_en_long, cp_en_nil, cp_s1_at, cp_s2_at, cp_nl_int, cp_nl_ref, cp_nl_long, cp_nl_none, cp_pop_0, cp_pop_s, reduceIte, if_true, if_false, Bool.false_eq_true, Bool.true_eq_false, false_implies, implies_true, forall_const, true_implies, true_and, and_true, and_self, true_or, or_true, false_or, or_false, Value.category, List.length_cons, List.length_nil, Option.toList_some, Option.toList_none, List.cons_append, List.nil_append, List.append_nil, Prod.mk.injEq, Nat.add_zero, Nat.zero_add, Nat.reduceAdd, Nat.reduceSub, Nat.reduceEqDiff, Nat.reduceLeDiff, Nat.reduceLT, Nat.le_refl, beq_self_eq_true, Nat.reduceBEq, ne_eq, not_true_eq_false, not_false_eq_true, Int32.reduceAdd, Int32.reduceSub, Int32.reduceMul, Int32.reduceLE, Int32.reduceLT, Int32.reduceToNatClampNeg, b01_0, b01_1, ne_2_0, ne_3_0, ne_4_0, ne_5_0, ne_6_0, ne_m1_0, ne_m2_0, b01_01, b01_n, lt_m2, lt_m1, le_m2, le_m1, Classical.not_not, Bool.or_false, Bool.false_or, Bool.true_or, Bool.or_true, j_CP_mornings_0, b_CP_mornings_0, j_CP_mornings_34, b_CP_mornings_34, j_CP_mornings_35, b_CP_mornings_35, an_0, an_1, ne_0_1, ne_0_m1, ne_1_0, ne_1_m1, ne_m1_0, ne_m1_1, pp_0_13, pp_0_7, sh_0, sh_15, sh_43]
      refine mid_i ?_
      refine c_Mod_mornings (iv_n6 b2) (iv_n b2) v2'' v1'' ?_ ?_ ?_
      · intro _ _ _ _ _ _ e
        rw [mgw_2 hno] at e
        exact absurd e (by decide +kernel)
      · intro _ _
        rw [mgw_2 hno]
        exact fin_i rfl (iv_rn h0 n24)
      · intro e
        exact absurd (iv_isB b2 hb) e
    · intro z
      omega
  · intro hb
    simp only [cp_kk, cp_vc, cp_vs, cp_jm, cp_ent_en, cp_en_int, cp_en_ref, cp_en_ret, cp_en_long, cp_en_nil, cp_s1_at, cp_s2_at, cp_nl_int, cp_nl_ref, cp_nl_long, cp_nl_none, cp_pop_0, cp_pop_s, reduceIte, if_true, if_false, Bool.false_eq_true, Bool.true_eq_false, false_implies, implies_true, forall_const, true_implies, true_and, and_true, and_self, true_or, or_true, false_or, or_false, Value.category, List.length_cons, List.length_nil, Option.toList_some, Option.toList_none, List.cons_append, List.nil_append, List.append_nil, Prod.mk.injEq, Nat.add_zero, Nat.zero_add, Nat.reduceAdd, Nat.reduceSub, Nat.reduceEqDiff, Nat.reduceLeDiff, Nat.reduceLT, Nat.le_refl, beq_self_eq_true, Nat.reduceBEq, ne_eq, not_true_eq_false, not_false_eq_true, Int32.reduceAdd, Int32.reduceSub, Int32.reduceMul, Int32.reduceLE, Int32.reduceLT, Int32.reduceToNatClampNeg, b01_0, b01_1, ne_2_0, ne_3_0, ne_4_0, ne_5_0, ne_6_0, ne_m1_0, ne_m2_0, b01_01, b01_n, lt_m2, lt_m1, le_m2, le_m1, Classical.not_not, Bool.or_false, Bool.false_or, Bool.true_or, Bool.or_true, j_CP_mornings_0, b_CP_mornings_0, j_CP_mornings_34, b_CP_mornings_34, j_CP_mornings_35, b_CP_mornings_35, an_0, an_1, ne_0_1, ne_0_m1, ne_1_0, ne_1_m1, ne_m1_0, ne_m1_1, pp_0_13, pp_0_7, sh_0, sh_15, sh_43]
    refine mid_i ?_
    refine c_Mod_mornings (iv_n6 b0) (iv_n b0) v2' v1' ?_ ?_ ?_
    · intro _ _ _ e
      exact absurd e (iv_noB b0 hb)
    · intro e
      exact absurd e (iv_noB b0 hb)
    · intro _
      exact fin_i rfl (iv_rn h0 n14)
theorem mgw_0f {sd N : Int32} : mgw false sd N = 1 := by
  unfold mgw
  rw [if_pos rfl]
theorem pr_waits {sd N : Int32} (h : Iv I t u) : PR g d m_CP_waits m_Mod_waits [.int sd, .int N] I J t u r x := by
  obtain ⟨⟨n, s, m, h0⟩, -, -⟩ := h
  have hB := h0.1
  have b0 := (iv_rf h0 1).1
  have b1 := (iv_rf h0 0).1
  have b2 := (iv_rf h0 2).1
  obtain ⟨v, v1, v2, v3⟩ := iv_v b1
  obtain ⟨v', v1', v2', -⟩ := iv_v b0
  obtain ⟨v'', v1'', v2'', -⟩ := iv_v b2
  unfold PR
  refine MW.of ok_CP_waits (Nat.le_of_ble_eq_true rfl) ?_
  refine cp_run 40 (fun _ => false) ck_CP_waits ?_
  simp only [cp_vc, cp_vs, cp_jm, cp_ent_en, cp_en_int, cp_en_ref, cp_en_ret, cp_en_long, cp_en_nil, cp_s1_at, cp_s2_at, cp_nl_int, cp_nl_ref, cp_nl_long, cp_nl_none, cp_pop_0, cp_pop_s, reduceIte, if_true, if_false, Bool.false_eq_true, Bool.true_eq_false, false_implies, implies_true, forall_const, true_implies, true_and, and_true, and_self, true_or, or_true, false_or, or_false, Value.category, List.length_cons, List.length_nil, Option.toList_some, Option.toList_none, List.cons_append, List.nil_append, List.append_nil, Prod.mk.injEq, Nat.add_zero, Nat.zero_add, Nat.reduceAdd, Nat.reduceSub, Nat.reduceEqDiff, Nat.reduceLeDiff, Nat.reduceLT, Nat.le_refl, beq_self_eq_true, Nat.reduceBEq, ne_eq, not_true_eq_false, not_false_eq_true, Int32.reduceAdd, Int32.reduceSub, Int32.reduceMul, Int32.reduceLE, Int32.reduceLT, Int32.reduceToNatClampNeg, b01_0, b01_1, ne_2_0, ne_3_0, ne_4_0, ne_5_0, ne_6_0, ne_m1_0, ne_m2_0, b01_01, b01_n, lt_m2, lt_m1, le_m2, le_m1, Classical.not_not, j_CP_waits_0, b_CP_waits_0, j_CP_waits_32, b_CP_waits_32, j_CP_waits_33, b_CP_waits_33, an_0, an_1, ne_0_1, ne_0_m1, ne_1_0, ne_1_m1, ne_m1_0, ne_m1_1, pp_0_13, pp_0_7, sh_0, sh_15, sh_43]
  refine c_CP_isTold (n := n) (iv_tk hB) (iv_n6 hB) (iv_cn hB) ?_ ?_
  · intro hn
    simp only [cp_kk, cp_vc, cp_vs, cp_jm, cp_ent_en, cp_en_int, cp_en_ref, cp_en_ret, cp_en_long, cp_en_nil, cp_s1_at, cp_s2_at, cp_nl_int, cp_nl_ref, cp_nl_long, cp_nl_none, cp_pop_0, cp_pop_s, reduceIte, if_true, if_false, Bool.false_eq_true, Bool.true_eq_false, false_implies, implies_true, forall_const, true_implies, true_and, and_true, and_self, true_or, or_true, false_or, or_false, Value.category, List.length_cons, List.length_nil, Option.toList_some, Option.toList_none, List.cons_append, List.nil_append, List.append_nil, Prod.mk.injEq, Nat.add_zero, Nat.zero_add, Nat.reduceAdd, Nat.reduceSub, Nat.reduceEqDiff, Nat.reduceLeDiff, Nat.reduceLT, Nat.le_refl, beq_self_eq_true, Nat.reduceBEq, ne_eq, not_true_eq_false, not_false_eq_true, Int32.reduceAdd, Int32.reduceSub, Int32.reduceMul, Int32.reduceLE, Int32.reduceLT, Int32.reduceToNatClampNeg, b01_0, b01_1, ne_2_0, ne_3_0, ne_4_0, ne_5_0, ne_6_0, ne_m1_0, ne_m2_0, b01_01, b01_n, lt_m2, lt_m1, le_m2, le_m1, Classical.not_not, Bool.or_false, Bool.false_or, Bool.true_or, Bool.or_true, j_CP_waits_0, b_CP_waits_0, j_CP_waits_32, b_CP_waits_32, j_CP_waits_33, b_CP_waits_33, an_0, an_1, ne_0_1, ne_0_m1, ne_1_0, ne_1_m1, ne_m1_0, ne_m1_1, pp_0_13, pp_0_7, sh_0, sh_15, sh_43]
    refine c_CP_areMornings (n := n) (iv_tk b1) (iv_n6 b1) (iv_cn b1) ?_ ?_ ?_
    · intro z k _ hz hk e1 e2
      subst e1
      subst e2
      rw [show rfu (rfu I 0) 0 = rfu I 0 from rfu_rfu]
      simp only [cp_kk, cp_vc, cp_vs, cp_jm, cp_ent_en, cp_en_int, cp_en_ref, cp_en_ret, cp_en_long, cp_en_nil, cp_s1_at, cp_s2_at, cp_nl_int, cp_nl_ref, cp_nl_long, cp_nl_none, cp_pop_0, cp_pop_s, reduceIte, if_true, if_false, Bool.false_eq_true, Bool.true_eq_false, false_implies, implies_true, forall_const, true_implies, true_and, and_true, and_self, true_or, or_true, false_or, or_false, Value.category, List.length_cons, List.length_nil, Option.toList_some, Option.toList_none, List.cons_append, List.nil_append, List.append_nil, Prod.mk.injEq, Nat.add_zero, Nat.zero_add, Nat.reduceAdd, Nat.reduceSub, Nat.reduceEqDiff, Nat.reduceLeDiff, Nat.reduceLT, Nat.le_refl, beq_self_eq_true, Nat.reduceBEq, ne_eq, not_true_eq_false, not_false_eq_true, Int32.reduceAdd, Int32.reduceSub, Int32.reduceMul, Int32.reduceLE, Int32.reduceLT, Int32.reduceToNatClampNeg, b01_0, b01_1, ne_2_0, ne_3_0, ne_4_0, ne_5_0, ne_6_0, ne_m1_0, ne_m2_0, b01_01, b01_n, lt_m2, lt_m1, le_m2, le_m1, Classical.not_not, Bool.or_false, Bool.false_or, Bool.true_or, Bool.or_true, j_CP_waits_0, b_CP_waits_0, j_CP_waits_32, b_CP_waits_32, j_CP_waits_33, b_CP_waits_33, an_0, an_1, ne_0_1, ne_0_m1, ne_1_0, ne_1_m1, ne_m1_0, ne_m1_1, pp_0_13, pp_0_7, sh_0, sh_15, sh_43]
      refine c_Vis_minutes (iv_cT b1) v1 v3 hk (by omega) ?_
      simp only [cp_kk, cp_vc, cp_vs, cp_jm, cp_ent_en, cp_en_int, cp_en_ref, cp_en_ret, cp_en_long, cp_en_nil, cp_s1_at, cp_s2_at, cp_nl_int, cp_nl_ref, cp_nl_long, cp_nl_none, cp_pop_0, cp_pop_s, reduceIte, if_true, if_false, Bool.false_eq_true, Bool.true_eq_false, false_implies, implies_true, forall_const, true_implies, true_and, and_true, and_self, true_or, or_true, false_or, or_false, Value.category, List.length_cons, List.length_nil, Option.toList_some, Option.toList_none, List.cons_append, List.nil_append, List.append_nil, Prod.mk.injEq, Nat.add_zero, Nat.zero_add, Nat.reduceAdd, Nat.reduceSub, Nat.reduceEqDiff, Nat.reduceLeDiff, Nat.reduceLT, Nat.le_refl, beq_self_eq_true, Nat.reduceBEq, ne_eq, not_true_eq_false, not_false_eq_true, Int32.reduceAdd, Int32.reduceSub, Int32.reduceMul, Int32.reduceLE, Int32.reduceLT, Int32.reduceToNatClampNeg, b01_0, b01_1, ne_2_0, ne_3_0, ne_4_0, ne_5_0, ne_6_0, ne_m1_0, ne_m2_0, b01_01, b01_n, lt_m2, lt_m1, le_m2, le_m1, Classical.not_not, Bool.or_false, Bool.false_or, Bool.true_or, Bool.or_true, j_CP_waits_0, b_CP_waits_0, j_CP_waits_32, b_CP_waits_32, j_CP_waits_33, b_CP_waits_33, an_0, an_1, ne_0_1, ne_0_m1, ne_1_0, ne_1_m1, ne_m1_0, ne_m1_1, pp_0_13, pp_0_7, sh_0, sh_15, sh_43]
      refine mid_i ?_
      generalize hX : (fo (cmo n v (fun s => (sp_stS (cs (rfu I 0)) (cb (rfu I 0) t n) 7 s).2)) k 0 (z, 0)).1 = X
      have kk : kp I (cp_u (rfu I 0) 43 0 (nI X)) := kp_u (kp_rfu kp_r 0) _ (by decide) (fun z => by omega) (fun z => by omega)
      have c1 := (iv_fr h0 kk).1
      have erb : rb (cp_u (rfu I 0) 43 0 (nI X)) n 49 = rb (rfu I 0) n 49 := rb_k (cp_u_o _ _ _ _ (by omega)) (cp_u_o _ _ _ _ (by omega))
      have et : (!decide (cp_u (rfu I 0) 43 0 (nI X) 44 14 = 0)) = true := by rw [decide_eq_false (iv_p1 c1 hn)]; rfl
      refine c_Mod_waits (iv_n6 c1) (iv_n c1) (v := v) (by rw [cp_u_at, if_neg (by omega)]; exact v2) v1 (iv_01 c1) ?_ ?_
      · intro z' k' _ e2 e3 hz' hk'
        have e2' : z = z' := (nI_eq (by omega) (by omega)).1 e2
        have e3' : k = k' := (nI_eq (by omega) (by omega)).1 e3
        subst e2'
        subst e3'
        refine fin_i ?_ ?_
        · unfold rmo
          rw [erb, mo_rel2 k 0 (z, 0) _ rfl rfl, ← cmo_cong (f := fun s => (sp_stS (cs (rfu I 0)) (cb (rfu I 0) t n) 7 s).2) (fun y hy => by rw [iv_stS b1 7 y hy]) k 0 (z, 0)]
        · exact iv_gk h0 kk (by rw [cp_u_at, if_neg (by omega)]; exact rfu_2) kp_mom mom_0 (mom_o rfl)
      · intro e
        rw [et] at e
        exact absurd (mgw_1 hz hk rfl rfl) e
    · intro _ hno
      have et : (!decide (rfu I 2 44 14 = 0)) = true := by rw [decide_eq_false (iv_p1 b2 hn)]; rfl
      rw [show rfu (rfu I 0) 2 = rfu I 2 from rfu_rfu]
      simp only [cp_kk, cp_vc, cp_vs, cp_jm, cp_ent_en, cp_en_int, cp_en_ref, cp_en_ret, cp_en_long, cp_en_nil, cp_s1_at, cp_s2_at, cp_nl_int, cp_nl_ref, cp_nl_long, cp_nl_none, cp_pop_0, cp_pop_s, reduceIte, if_true, if_false, Bool.false_eq_true, Bool.true_eq_false, false_implies, implies_true, forall_const, true_implies, true_and, and_true, and_self, true_or, or_true, false_or, or_false, Value.category, List.length_cons, List.length_nil, Option.toList_some, Option.toList_none, List.cons_append, List.nil_append, List.append_nil, Prod.mk.injEq, Nat.add_zero, Nat.zero_add, Nat.reduceAdd, Nat.reduceSub, Nat.reduceEqDiff, Nat.reduceLeDiff, Nat.reduceLT, Nat.le_refl, beq_self_eq_true, Nat.reduceBEq, ne_eq, not_true_eq_false, not_false_eq_true, Int32.reduceAdd, Int32.reduceSub, Int32.reduceMul, Int32.reduceLE, Int32.reduceLT, Int32.reduceToNatClampNeg, b01_0, b01_1, ne_2_0, ne_3_0, ne_4_0, ne_5_0, ne_6_0, ne_m1_0, ne_m2_0, b01_01, b01_n, lt_m2, lt_m1, le_m2, le_m1, Classical.not_not, Bool.or_false, Bool.false_or, Bool.true_or, Bool.or_true, j_CP_waits_0, b_CP_waits_0, j_CP_waits_32, b_CP_waits_32, j_CP_waits_33, b_CP_waits_33, an_0, an_1, ne_0_1, ne_0_m1, ne_1_0, ne_1_m1, ne_m1_0, ne_m1_1, pp_0_13, pp_0_7, sh_0, sh_15, sh_43]
      refine mid_i ?_
      refine c_Mod_waits (iv_n6 b2) (iv_n b2) v2'' v1'' (iv_01 b2) ?_ ?_
      · intro _ _ e
        rw [et, mgw_2 hno] at e
        exact absurd e (by decide +kernel)
      · intro _
        rw [et, mgw_2 hno]
        exact fin_i rfl (iv_rn h0 n24)
    · intro z
      omega
  · intro hn
    have et : (!decide (rfu I 1 44 14 = 0)) = false := by rw [decide_eq_true (iv_p0 b0 hn)]; rfl
    simp only [cp_kk, cp_vc, cp_vs, cp_jm, cp_ent_en, cp_en_int, cp_en_ref, cp_en_ret, cp_en_long, cp_en_nil, cp_s1_at, cp_s2_at, cp_nl_int, cp_nl_ref, cp_nl_long, cp_nl_none, cp_pop_0, cp_pop_s, reduceIte, if_true, if_false, Bool.false_eq_true, Bool.true_eq_false, false_implies, implies_true, forall_const, true_implies, true_and, and_true, and_self, true_or, or_true, false_or, or_false, Value.category, List.length_cons, List.length_nil, Option.toList_some, Option.toList_none, List.cons_append, List.nil_append, List.append_nil, Prod.mk.injEq, Nat.add_zero, Nat.zero_add, Nat.reduceAdd, Nat.reduceSub, Nat.reduceEqDiff, Nat.reduceLeDiff, Nat.reduceLT, Nat.le_refl, beq_self_eq_true, Nat.reduceBEq, ne_eq, not_true_eq_false, not_false_eq_true, Int32.reduceAdd, Int32.reduceSub, Int32.reduceMul, Int32.reduceLE, Int32.reduceLT, Int32.reduceToNatClampNeg, b01_0, b01_1, ne_2_0, ne_3_0, ne_4_0, ne_5_0, ne_6_0, ne_m1_0, ne_m2_0, b01_01, b01_n, lt_m2, lt_m1, le_m2, le_m1, Classical.not_not, Bool.or_false, Bool.false_or, Bool.true_or, Bool.or_true, j_CP_waits_0, b_CP_waits_0, j_CP_waits_32, b_CP_waits_32, j_CP_waits_33, b_CP_waits_33, an_0, an_1, ne_0_1, ne_0_m1, ne_1_0, ne_1_m1, ne_m1_0, ne_m1_1, pp_0_13, pp_0_7, sh_0, sh_15, sh_43]
    refine mid_i ?_
    refine c_Mod_waits (iv_n6 b0) (iv_n b0) v2' v1' (iv_01 b0) ?_ ?_
    · intro _ _ e
      rw [et, mgw_0f] at e
      exact absurd e (by decide +kernel)
    · intro _
      rw [et, mgw_0f]
      exact fin_i rfl (iv_rn h0 n14)
end Pr8
