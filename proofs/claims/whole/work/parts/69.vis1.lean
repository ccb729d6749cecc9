section Vis1
variable {g : cp_G} {d : Nat} {sh : cp_H} {I : cp_I} {J : cp_J} {P : cp_P} {Q : cp_QT} {t u r x n c : Nat}
/-! chances: the class's -/
def cwg (n v am s : Nat) : Nat → Nat → Nat := fun b z => if am.testBit b = true then z * (if s.testBit b = true then v else 100 - v) else z
theorem lp_Vis_weight {v s am : Nat} (hc : tk c) (hn6 : n ≤ 6) (hn : I c 4 = nI n) (hv : v ≤ 100) (hV : I c 3 = nI v) : ∀ (m b z : Nat) (L : cp_Lo), b + m = n → L 0 = some (.ref c) → L 1 = some (.int (nI s)) → L 2 = some (.int (nI am)) → L 3 = some (.long (lN z)) → L 5 = some (.int (nI b)) →
    Q (some (.long (lN (fo (cwg n v am s) m b z)))) SH I J (PP t u r x) → RW g false (d + 1) 0 0 m_Vis_weight 0 0 5 L [] SH I J (PP t u r x) Q := by
  have e1 : (100 : Int32) - nI v = nI (100 - v) := pk_sub (a := 100) hv
  have e2 : (nI v).toInt64 = lN v := nI_l (by omega)
  have e3 : (nI (100 - v)).toInt64 = lN (100 - v) := nI_l (by omega)
  intro m
  induction m with
  | zero =>
    intro b z L hb l0 l1 l2 l3 l5 hq
    have c1 : nI n ≤ nI b := nI_le (by omega) (by omega)
    refine cp_run 30 (fun t => t == 5) ck_Vis_weight ?_
    rw [j_Vis_weight_5, b_Vis_weight_5]
    simp only [cp_vc, cp_vs, cp_jm, cp_ent_en, cp_en_int, cp_en_ref, cp_en_ret, cp_en_long, cp_en_nil, cp_s1_at, cp_s2_at, cp_nl_int, cp_nl_ref, cp_nl_long, cp_nl_none, cp_pop_0, cp_pop_s, reduceIte, if_true, if_false, Bool.false_eq_true, Bool.true_eq_false, false_implies, implies_true, forall_const, true_implies, true_and, and_true, and_self, true_or, or_true, false_or, or_false, Value.category, List.length_cons, List.length_nil, Option.toList_some, Option.toList_none, List.cons_append, List.nil_append, List.append_nil, Prod.mk.injEq, Nat.add_zero, Nat.zero_add, Nat.reduceAdd, Nat.reduceSub, Nat.reduceEqDiff, Nat.reduceLeDiff, Nat.reduceLT, Nat.le_refl, beq_self_eq_true, Nat.reduceBEq, ne_eq, not_true_eq_false, not_false_eq_true, Int32.reduceAdd, Int32.reduceSub, Int32.reduceMul, Int32.reduceLE, Int32.reduceLT, Int32.reduceToNatClampNeg, b01_0, b01_1, ne_2_0, ne_3_0, ne_4_0, ne_5_0, ne_6_0, ne_m1_0, ne_m2_0, b01_01, b01_n, lt_m2, lt_m1, le_m2, le_m1, Classical.not_not, j_Vis_weight_0, b_Vis_weight_0, j_Vis_weight_41, b_Vis_weight_41, j_Vis_weight_49, b_Vis_weight_49, j_Vis_weight_51, b_Vis_weight_51, j_Vis_weight_57, b_Vis_weight_57, an_0, an_1, cl_0, cl_1, cl_100, ne_0_1, ne_1_0, vi_0, vi_1, vi_100, l0, l1, l2, l3, l5, sT0 hc, sT1 hc, sT2 hc, sT3 hc, sT4 hc, sT5 hc, sT6 hc, sT7 hc, sT8 hc, sT9 hc, pT1 hc, pT2 hc, pT3 hc, pT4 hc, pT5 hc, pT6 hc, pT7 hc, pT8 hc, pT9 hc, hn, c1]
    exact hq
  | succ m ih =>
    intro b z L hb l0 l1 l2 l3 l5 hq
    have c1 : ¬ nI n ≤ nI b := nI_ge (by omega) (by omega)
    rw [fo] at hq
    refine cp_run 60 (fun t => t == 5 || t == 49) ck_Vis_weight ?_
    rw [j_Vis_weight_5, b_Vis_weight_5]
    simp only [cp_vc, cp_vs, cp_jm, cp_ent_en, cp_en_int, cp_en_ref, cp_en_ret, cp_en_long, cp_en_nil, cp_s1_at, cp_s2_at, cp_nl_int, cp_nl_ref, cp_nl_long, cp_nl_none, cp_pop_0, cp_pop_s, reduceIte, if_true, if_false, Bool.false_eq_true, Bool.true_eq_false, false_implies, implies_true, forall_const, true_implies, true_and, and_true, and_self, true_or, or_true, false_or, or_false, Value.category, List.length_cons, List.length_nil, Option.toList_some, Option.toList_none, List.cons_append, List.nil_append, List.append_nil, Prod.mk.injEq, Nat.add_zero, Nat.zero_add, Nat.reduceAdd, Nat.reduceSub, Nat.reduceEqDiff, Nat.reduceLeDiff, Nat.reduceLT, Nat.le_refl, beq_self_eq_true, Nat.reduceBEq, ne_eq, not_true_eq_false, not_false_eq_true, Int32.reduceAdd, Int32.reduceSub, Int32.reduceMul, Int32.reduceLE, Int32.reduceLT, Int32.reduceToNatClampNeg, b01_0, b01_1, ne_2_0, ne_3_0, ne_4_0, ne_5_0, ne_6_0, ne_m1_0, ne_m2_0, b01_01, b01_n, lt_m2, lt_m1, le_m2, le_m1, Classical.not_not, Bool.or_false, Bool.false_or, Bool.true_or, Bool.or_true, j_Vis_weight_0, b_Vis_weight_0, j_Vis_weight_41, b_Vis_weight_41, j_Vis_weight_51, b_Vis_weight_51, j_Vis_weight_57, b_Vis_weight_57, an_0, an_1, cl_0, cl_1, cl_100, ne_0_1, ne_1_0, vi_0, vi_1, vi_100, l0, l1, l2, l3, l5, sT0 hc, sT1 hc, sT2 hc, sT3 hc, sT4 hc, sT5 hc, sT6 hc, sT7 hc, sT8 hc, sT9 hc, pT1 hc, pT2 hc, pT3 hc, pT4 hc, pT5 hc, pT6 hc, pT7 hc, pT8 hc, pT9 hc, hn, c1, hV, e1, e2, e3, hbg_0 (show b < 32 by omega), nI_1]
    refine ⟨fun q => ?_, fun q => ?_⟩
    · have e : cwg n v am s b z = z := by
        unfold cwg
        rw [if_neg (by simp [q])]
      rw [e] at hq
      refine ih (b + 1) z _ (by omega) ?_ ?_ ?_ ?_ ?_ hq <;> simp [cp_s1_at, cp_nl_int, cp_nl_ref, cp_nl_long, l0, l1, l2, l3]
    · have q' : am.testBit b = true := by simpa using q
      have fin : ∀ w : Nat, w = (if s.testBit b = true then v else 100 - v) → RW g false (d + 1) 0 0 m_Vis_weight 0 0 49 L [.long (lN w), .long (lN z)] SH I J (PP t u r x) Q := by
        intro w hw
        have e : cwg n v am s b z = z * w := by
          unfold cwg
          rw [if_pos q', hw]
        rw [e] at hq
        refine cp_run 30 (fun t => t == 5) ck_Vis_weight ?_
        simp only [cp_vc, cp_vs, cp_jm, cp_ent_en, cp_en_int, cp_en_ref, cp_en_ret, cp_en_long, cp_en_nil, cp_s1_at, cp_s2_at, cp_nl_int, cp_nl_ref, cp_nl_long, cp_nl_none, cp_pop_0, cp_pop_s, reduceIte, if_true, if_false, Bool.false_eq_true, Bool.true_eq_false, false_implies, implies_true, forall_const, true_implies, true_and, and_true, and_self, true_or, or_true, false_or, or_false, Value.category, List.length_cons, List.length_nil, Option.toList_some, Option.toList_none, List.cons_append, List.nil_append, List.append_nil, Prod.mk.injEq, Nat.add_zero, Nat.zero_add, Nat.reduceAdd, Nat.reduceSub, Nat.reduceEqDiff, Nat.reduceLeDiff, Nat.reduceLT, Nat.le_refl, beq_self_eq_true, Nat.reduceBEq, ne_eq, not_true_eq_false, not_false_eq_true, Int32.reduceAdd, Int32.reduceSub, Int32.reduceMul, Int32.reduceLE, Int32.reduceLT, Int32.reduceToNatClampNeg, b01_0, b01_1, ne_2_0, ne_3_0, ne_4_0, ne_5_0, ne_6_0, ne_m1_0, ne_m2_0, b01_01, b01_n, lt_m2, lt_m1, le_m2, le_m1, Classical.not_not, j_Vis_weight_0, b_Vis_weight_0, j_Vis_weight_41, b_Vis_weight_41, j_Vis_weight_49, b_Vis_weight_49, j_Vis_weight_51, b_Vis_weight_51, j_Vis_weight_57, b_Vis_weight_57, an_0, an_1, cl_0, cl_1, cl_100, ne_0_1, ne_1_0, vi_0, vi_1, vi_100, l0, l1, l2, l3, l5, lN_mul, nI_1]
        refine ih (b + 1) (z * w) _ (by omega) ?_ ?_ ?_ ?_ ?_ hq <;> simp [cp_s1_at, cp_s2_at, cp_nl_int, cp_nl_ref, cp_nl_long, l0, l1, l2]
      refine ⟨fun q2 => fin _ ?_, fun q2 => fin _ ?_⟩
      · rw [if_neg (by simp [q2])]
      · rw [if_pos (by simpa using q2)]
theorem c_Vis_weight {v s am : Nat} (hc : tk c) (hn6 : n ≤ 6) (hn : I c 4 = nI n) (hv : v ≤ 100) (hV : I c 3 = nI v) (h : Q (some (.long (lN (fo (cwg n v am s) n 0 1)))) SH I J (PP t u r x)) : MW g false (d + 1) 0 0 m_Vis_weight [.ref c, .int (nI s), .int (nI am)] SH I J (PP t u r x) Q := by
  refine MW.of ok_Vis_weight (Nat.le_of_ble_eq_true rfl) ?_
  refine cp_run 20 (fun t => t == 5) ck_Vis_weight ?_
  simp only [cp_vc, cp_vs, cp_jm, cp_ent_en, cp_en_int, cp_en_ref, cp_en_ret, cp_en_long, cp_en_nil, cp_s1_at, cp_s2_at, cp_nl_int, cp_nl_ref, cp_nl_long, cp_nl_none, cp_pop_0, cp_pop_s, reduceIte, if_true, if_false, Bool.false_eq_true, Bool.true_eq_false, false_implies, implies_true, forall_const, true_implies, true_and, and_true, and_self, true_or, or_true, false_or, or_false, Value.category, List.length_cons, List.length_nil, Option.toList_some, Option.toList_none, List.cons_append, List.nil_append, List.append_nil, Prod.mk.injEq, Nat.add_zero, Nat.zero_add, Nat.reduceAdd, Nat.reduceSub, Nat.reduceEqDiff, Nat.reduceLeDiff, Nat.reduceLT, Nat.le_refl, beq_self_eq_true, Nat.reduceBEq, ne_eq, not_true_eq_false, not_false_eq_true, Int32.reduceAdd, Int32.reduceSub, Int32.reduceMul, Int32.reduceLE, Int32.reduceLT, Int32.reduceToNatClampNeg, b01_0, b01_1, ne_2_0, ne_3_0, ne_4_0, ne_5_0, ne_6_0, ne_m1_0, ne_m2_0, b01_01, b01_n, lt_m2, lt_m1, le_m2, le_m1, Classical.not_not, j_Vis_weight_0, b_Vis_weight_0, j_Vis_weight_41, b_Vis_weight_41, j_Vis_weight_49, b_Vis_weight_49, j_Vis_weight_51, b_Vis_weight_51, j_Vis_weight_57, b_Vis_weight_57, an_0, an_1, cl_0, cl_1, cl_100, ne_0_1, ne_1_0, vi_0, vi_1, vi_100]
  refine lp_Vis_weight hc hn6 hn hv hV n 0 1 _ (by omega) ?_ ?_ ?_ ?_ ?_ h
  · simp [cp_s1_at, cp_s2_at, cp_ent_en, cp_en_ref, cp_nl_ref]
  · simp [cp_s1_at, cp_s2_at, cp_ent_en, cp_en_ref, cp_en_int, cp_nl_int]
  · simp [cp_s1_at, cp_s2_at, cp_ent_en, cp_en_ref, cp_en_int, cp_nl_int]
  · simp [cp_s1_at, cp_s2_at, cp_nl_long]
    rfl
  · simp [cp_s1_at, nI_0]
theorem lp_Vis_whole {am : Nat} (ha : am < 64) : ∀ (m k : Nat) (L : cp_Lo), k + m = card am → L 0 = some (.int (nI am)) → L 1 = some (.long (lN (100 ^ k))) → L 3 = some (.int (nI k)) →
    Q (some (.long (lN (100 ^ card am)))) sh I J P → RW g false (d + 2) 0 0 m_Vis_wholeWeight 0 0 4 L [] sh I J P Q := by
  have h6 := card_le ha
  intro m
  induction m with
  | zero =>
    intro k L hk l0 l1 l3 hq
    have c1 : nI (card am) ≤ nI k := nI_le (by omega) (by omega)
    refine cp_run 30 (fun t => t == 4) ck_Vis_wholeWeight ?_
    rw [j_Vis_wholeWeight_4, b_Vis_wholeWeight_4]
    simp only [cp_vc, cp_vs, cp_jm, cp_ent_en, cp_en_int, cp_en_ref, cp_en_ret, cp_en_long, cp_en_nil, cp_s1_at, cp_s2_at, cp_nl_int, cp_nl_ref, cp_nl_long, cp_nl_none, cp_pop_0, cp_pop_s, reduceIte, if_true, if_false, Bool.false_eq_true, Bool.true_eq_false, false_implies, implies_true, forall_const, true_implies, true_and, and_true, and_self, true_or, or_true, false_or, or_false, Value.category, List.length_cons, List.length_nil, Option.toList_some, Option.toList_none, List.cons_append, List.nil_append, List.append_nil, Prod.mk.injEq, Nat.add_zero, Nat.zero_add, Nat.reduceAdd, Nat.reduceSub, Nat.reduceEqDiff, Nat.reduceLeDiff, Nat.reduceLT, Nat.le_refl, beq_self_eq_true, Nat.reduceBEq, ne_eq, not_true_eq_false, not_false_eq_true, Int32.reduceAdd, Int32.reduceSub, Int32.reduceMul, Int32.reduceLE, Int32.reduceLT, Int32.reduceToNatClampNeg, b01_0, b01_1, ne_2_0, ne_3_0, ne_4_0, ne_5_0, ne_6_0, ne_m1_0, ne_m2_0, b01_01, b01_n, lt_m2, lt_m1, le_m2, le_m1, Classical.not_not, j_Vis_wholeWeight_0, b_Vis_wholeWeight_0, j_Vis_wholeWeight_24, b_Vis_wholeWeight_24, an_0, an_1, cl_0, ne_0_1, ne_1_0, vi_0, l0, l1, l3]
    refine c_bitCount6 ha ?_
    simp only [cp_kk, cp_vc, cp_vs, cp_jm, cp_ent_en, cp_en_int, cp_en_ref, cp_en_ret, cp_en_long, cp_en_nil, cp_s1_at, cp_s2_at, cp_nl_int, cp_nl_ref, cp_nl_long, cp_nl_none, cp_pop_0, cp_pop_s, reduceIte, if_true, if_false, Bool.false_eq_true, Bool.true_eq_false, false_implies, implies_true, forall_const, true_implies, true_and, and_true, and_self, true_or, or_true, false_or, or_false, Value.category, List.length_cons, List.length_nil, Option.toList_some, Option.toList_none, List.cons_append, List.nil_append, List.append_nil, Prod.mk.injEq, Nat.add_zero, Nat.zero_add, Nat.reduceAdd, Nat.reduceSub, Nat.reduceEqDiff, Nat.reduceLeDiff, Nat.reduceLT, Nat.le_refl, beq_self_eq_true, Nat.reduceBEq, ne_eq, not_true_eq_false, not_false_eq_true, Int32.reduceAdd, Int32.reduceSub, Int32.reduceMul, Int32.reduceLE, Int32.reduceLT, Int32.reduceToNatClampNeg, b01_0, b01_1, ne_2_0, ne_3_0, ne_4_0, ne_5_0, ne_6_0, ne_m1_0, ne_m2_0, b01_01, b01_n, lt_m2, lt_m1, le_m2, le_m1, Classical.not_not, Bool.or_false, Bool.false_or, Bool.true_or, Bool.or_true, j_Vis_wholeWeight_0, b_Vis_wholeWeight_0, j_Vis_wholeWeight_24, b_Vis_wholeWeight_24, an_0, an_1, cl_0, ne_0_1, ne_1_0, vi_0, l0, l1, l3, c1]
    rw [show k = card am by omega]
    exact hq
  | succ m ih =>
    intro k L hk l0 l1 l3 hq
    have c1 : ¬ nI (card am) ≤ nI k := nI_ge (by omega) (by omega)
    have e : lN (100 ^ k) * 100 = lN (100 ^ (k + 1)) := by
      rw [show (100 : Int64) = lN 100 from rfl, lN_mul, Nat.pow_succ]
    refine cp_run 30 (fun t => t == 4) ck_Vis_wholeWeight ?_
    rw [j_Vis_wholeWeight_4, b_Vis_wholeWeight_4]
    simp only [cp_vc, cp_vs, cp_jm, cp_ent_en, cp_en_int, cp_en_ref, cp_en_ret, cp_en_long, cp_en_nil, cp_s1_at, cp_s2_at, cp_nl_int, cp_nl_ref, cp_nl_long, cp_nl_none, cp_pop_0, cp_pop_s, reduceIte, if_true, if_false, Bool.false_eq_true, Bool.true_eq_false, false_implies, implies_true, forall_const, true_implies, true_and, and_true, and_self, true_or, or_true, false_or, or_false, Value.category, List.length_cons, List.length_nil, Option.toList_some, Option.toList_none, List.cons_append, List.nil_append, List.append_nil, Prod.mk.injEq, Nat.add_zero, Nat.zero_add, Nat.reduceAdd, Nat.reduceSub, Nat.reduceEqDiff, Nat.reduceLeDiff, Nat.reduceLT, Nat.le_refl, beq_self_eq_true, Nat.reduceBEq, ne_eq, not_true_eq_false, not_false_eq_true, Int32.reduceAdd, Int32.reduceSub, Int32.reduceMul, Int32.reduceLE, Int32.reduceLT, Int32.reduceToNatClampNeg, b01_0, b01_1, ne_2_0, ne_3_0, ne_4_0, ne_5_0, ne_6_0, ne_m1_0, ne_m2_0, b01_01, b01_n, lt_m2, lt_m1, le_m2, le_m1, Classical.not_not, j_Vis_wholeWeight_0, b_Vis_wholeWeight_0, j_Vis_wholeWeight_24, b_Vis_wholeWeight_24, an_0, an_1, cl_0, ne_0_1, ne_1_0, vi_0, l0, l1, l3]
    refine c_bitCount6 ha ?_
    simp only [cp_kk, cp_vc, cp_vs, cp_jm, cp_ent_en, cp_en_int, cp_en_ref, cp_en_ret, cp_en_long, cp_en_nil, cp_s1_at, cp_s2_at, cp_nl_int, cp_nl_ref, cp_nl_long, cp_nl_none, cp_pop_0, cp_pop_s, reduceIte, if_true, if_false, Bool.false_eq_true, Bool.true_eq_false, false_implies, implies_true, forall_const, true_implies, true_and, and_true, and_self, true_or, or_true, false_or, or_false, Value.category, List.length_cons, List.length_nil, Option.toList_some, Option.toList_none, List.cons_append, List.nil_append, List.append_nil, Prod.mk.injEq, Nat.add_zero, Nat.zero_add, Nat.reduceAdd, Nat.reduceSub, Nat.reduceEqDiff, Nat.reduceLeDiff, Nat.reduceLT, Nat.le_refl, beq_self_eq_true, Nat.reduceBEq, ne_eq, not_true_eq_false, not_false_eq_true, Int32.reduceAdd, Int32.reduceSub, Int32.reduceMul, Int32.reduceLE, Int32.reduceLT, Int32.reduceToNatClampNeg, b01_0, b01_1, ne_2_0, ne_3_0, ne_4_0, ne_5_0, ne_6_0, ne_m1_0, ne_m2_0, b01_01, b01_n, lt_m2, lt_m1, le_m2, le_m1, Classical.not_not, Bool.or_false, Bool.false_or, Bool.true_or, Bool.or_true, j_Vis_wholeWeight_0, b_Vis_wholeWeight_0, j_Vis_wholeWeight_24, b_Vis_wholeWeight_24, an_0, an_1, cl_0, ne_0_1, ne_1_0, vi_0, l0, l1, l3, c1, e, nI_1]
    refine ih (k + 1) _ (by omega) ?_ ?_ ?_ hq <;> simp [cp_s1_at, cp_s2_at, cp_nl_int, cp_nl_ref, cp_nl_long, l0]
theorem c_Vis_whole {am : Nat} (ha : am < 64) (h : Q (some (.long (lN (100 ^ card am)))) sh I J P) : MW g false (d + 2) 0 0 m_Vis_wholeWeight [.int (nI am)] sh I J P Q := by
  refine MW.of ok_Vis_wholeWeight (Nat.le_of_ble_eq_true rfl) ?_
  refine cp_run 20 (fun t => t == 4) ck_Vis_wholeWeight ?_
  simp only [cp_vc, cp_vs, cp_jm, cp_ent_en, cp_en_int, cp_en_ref, cp_en_ret, cp_en_long, cp_en_nil, cp_s1_at, cp_s2_at, cp_nl_int, cp_nl_ref, cp_nl_long, cp_nl_none, cp_pop_0, cp_pop_s, reduceIte, if_true, if_false, Bool.false_eq_true, Bool.true_eq_false, false_implies, implies_true, forall_const, true_implies, true_and, and_true, and_self, true_or, or_true, false_or, or_false, Value.category, List.length_cons, List.length_nil, Option.toList_some, Option.toList_none, List.cons_append, List.nil_append, List.append_nil, Prod.mk.injEq, Nat.add_zero, Nat.zero_add, Nat.reduceAdd, Nat.reduceSub, Nat.reduceEqDiff, Nat.reduceLeDiff, Nat.reduceLT, Nat.le_refl, beq_self_eq_true, Nat.reduceBEq, ne_eq, not_true_eq_false, not_false_eq_true, Int32.reduceAdd, Int32.reduceSub, Int32.reduceMul, Int32.reduceLE, Int32.reduceLT, Int32.reduceToNatClampNeg, b01_0, b01_1, ne_2_0, ne_3_0, ne_4_0, ne_5_0, ne_6_0, ne_m1_0, ne_m2_0, b01_01, b01_n, lt_m2, lt_m1, le_m2, le_m1, Classical.not_not, j_Vis_wholeWeight_0, b_Vis_wholeWeight_0, j_Vis_wholeWeight_24, b_Vis_wholeWeight_24, an_0, an_1, cl_0, ne_0_1, ne_1_0, vi_0]
  refine lp_Vis_whole ha (card am) 0 _ (by omega) ?_ ?_ ?_ h
  · simp [cp_s1_at, cp_s2_at, cp_ent_en, cp_en_int, cp_nl_int]
  · simp [cp_s1_at, cp_s2_at, cp_nl_long]
    rfl
  · simp [cp_s1_at, nI_0]
theorem mod_half {b r : Nat} (hr : 0 < r) (hb : r < b) {k : Nat} (h : b < 2 ^ (k + 1)) : b % r < 2 ^ k := by
  rw [Nat.pow_succ] at h
  have h1 : b % r < r := Nat.mod_lt _ hr
  have h2 : b % r ≤ b - r := by
    have := Nat.mod_eq_sub_mod (a := b) (b := r) (by omega)
    rw [this]
    exact Nat.mod_le _ _
  omega
theorem lp_Vis_gcd {a0 b0 : Nat} : ∀ (k a b st : Nat) (L : cp_Lo), b < 2 ^ k → st + 2 * k + 1 ≤ 999 → a < 2 ^ 63 → b < 2 ^ 63 → Nat.gcd a b = Nat.gcd a0 b0 → L 4 = some (.long (lN a)) → L 6 = some (.long (lN b)) → L 8 = some (.int (nI st)) →
    Q (some (.long (lN (Nat.gcd a0 b0)))) sh I J P → RW g false (d + 1) 0 0 m_Vis_commonDivisor 0 0 9 L [] sh I J P Q := by
  have hz : (0 : Int64) = lN 0 := rfl
  have stop : ∀ (a st : Nat) (L : cp_Lo), st ≤ 999 → a = Nat.gcd a0 b0 → L 4 = some (.long (lN a)) → L 6 = some (.long (lN 0)) → L 8 = some (.int (nI st)) → Q (some (.long (lN (Nat.gcd a0 b0)))) sh I J P → RW g false (d + 1) 0 0 m_Vis_commonDivisor 0 0 9 L [] sh I J P Q := by
    intro a st L hst hg l4 l6 l8 hq
    have c1 : ¬ (1000 : Int32) ≤ nI st := nI_ge (b := 1000) (by omega) (by omega)
    have e2 : lN 0 = (0 : Int64) := rfl
    refine cp_run 30 (fun t => t == 9) ck_Vis_commonDivisor ?_
    rw [j_Vis_commonDivisor_9, b_Vis_commonDivisor_9]
    simp only [cp_vc, cp_vs, cp_jm, cp_ent_en, cp_en_int, cp_en_ref, cp_en_ret, cp_en_long, cp_en_nil, cp_s1_at, cp_s2_at, cp_nl_int, cp_nl_ref, cp_nl_long, cp_nl_none, cp_pop_0, cp_pop_s, reduceIte, if_true, if_false, Bool.false_eq_true, Bool.true_eq_false, false_implies, implies_true, forall_const, true_implies, true_and, and_true, and_self, true_or, or_true, false_or, or_false, Value.category, List.length_cons, List.length_nil, Option.toList_some, Option.toList_none, List.cons_append, List.nil_append, List.append_nil, Prod.mk.injEq, Nat.add_zero, Nat.zero_add, Nat.reduceAdd, Nat.reduceSub, Nat.reduceEqDiff, Nat.reduceLeDiff, Nat.reduceLT, Nat.le_refl, beq_self_eq_true, Nat.reduceBEq, ne_eq, not_true_eq_false, not_false_eq_true, Int32.reduceAdd, Int32.reduceSub, Int32.reduceMul, Int32.reduceLE, Int32.reduceLT, Int32.reduceToNatClampNeg, b01_0, b01_1, ne_2_0, ne_3_0, ne_4_0, ne_5_0, ne_6_0, ne_m1_0, ne_m2_0, b01_01, b01_n, lt_m2, lt_m1, le_m2, le_m1, Classical.not_not, j_Vis_commonDivisor_0, b_Vis_commonDivisor_0, j_Vis_commonDivisor_45, b_Vis_commonDivisor_45, an_0, an_1, cl_0, ne_0_1, ne_1_0, vi_0, l4, l6, l8, c1, e2, lg_cmp_eq]
    rw [hg]
    exact hq
  have step : ∀ (a b st : Nat) (L : cp_Lo), st ≤ 999 → 0 < b → a < 2 ^ 63 → b < 2 ^ 63 → L 4 = some (.long (lN a)) → L 6 = some (.long (lN b)) → L 8 = some (.int (nI st)) → (∀ L' : cp_Lo, L' 4 = some (.long (lN b)) → L' 6 = some (.long (lN (a % b))) → L' 8 = some (.int (nI (st + 1))) → RW g false (d + 1) 0 0 m_Vis_commonDivisor 0 0 9 L' [] sh I J P Q) → RW g false (d + 1) 0 0 m_Vis_commonDivisor 0 0 9 L [] sh I J P Q := by
    intro a b st L hst hb ha63 hb63 l4 l6 l8 hk
    have c1 : ¬ (1000 : Int32) ≤ nI st := nI_ge (b := 1000) (by omega) (by omega)
    have e0 : ¬ lN b = 0 := by rw [hz, pk_lEQ hb63 (Nat.two_pow_pos 63)]; omega
    refine cp_run 40 (fun t => t == 9) ck_Vis_commonDivisor ?_
    rw [j_Vis_commonDivisor_9, b_Vis_commonDivisor_9]
    simp only [cp_vc, cp_vs, cp_jm, cp_ent_en, cp_en_int, cp_en_ref, cp_en_ret, cp_en_long, cp_en_nil, cp_s1_at, cp_s2_at, cp_nl_int, cp_nl_ref, cp_nl_long, cp_nl_none, cp_pop_0, cp_pop_s, reduceIte, if_true, if_false, Bool.false_eq_true, Bool.true_eq_false, false_implies, implies_true, forall_const, true_implies, true_and, and_true, and_self, true_or, or_true, false_or, or_false, Value.category, List.length_cons, List.length_nil, Option.toList_some, Option.toList_none, List.cons_append, List.nil_append, List.append_nil, Prod.mk.injEq, Nat.add_zero, Nat.zero_add, Nat.reduceAdd, Nat.reduceSub, Nat.reduceEqDiff, Nat.reduceLeDiff, Nat.reduceLT, Nat.le_refl, beq_self_eq_true, Nat.reduceBEq, ne_eq, not_true_eq_false, not_false_eq_true, Int32.reduceAdd, Int32.reduceSub, Int32.reduceMul, Int32.reduceLE, Int32.reduceLT, Int32.reduceToNatClampNeg, b01_0, b01_1, ne_2_0, ne_3_0, ne_4_0, ne_5_0, ne_6_0, ne_m1_0, ne_m2_0, b01_01, b01_n, lt_m2, lt_m1, le_m2, le_m1, Classical.not_not, j_Vis_commonDivisor_0, b_Vis_commonDivisor_0, j_Vis_commonDivisor_45, b_Vis_commonDivisor_45, an_0, an_1, cl_0, ne_0_1, ne_1_0, vi_0, l4, l6, l8, c1, e0, lg_cmp_eq, pk_lRem ha63 hb hb63, nI_1]
    refine hk _ ?_ ?_ ?_ <;> simp [cp_s1_at, cp_s2_at, cp_nl_int, cp_nl_long]
  intro k
  induction k with
  | zero =>
    intro a b st L hb hst ha63 hb63 hg l4 l6 l8 hq
    have : b = 0 := by simpa using hb
    subst this
    rw [Nat.gcd_zero_right] at hg
    exact stop a st L (by omega) hg l4 l6 l8 hq
  | succ k ih =>
    intro a b st L hb hst ha63 hb63 hg l4 l6 l8 hq
    by_cases b0' : b = 0
    · subst b0'
      rw [Nat.gcd_zero_right] at hg
      exact stop a st L (by omega) hg l4 l6 l8 hq
    · refine step a b st L (by omega) (by omega) ha63 hb63 l4 l6 l8 ?_
      intro L' k4 k6 k8
      have hr : a % b < b := Nat.mod_lt _ (by omega)
      have hg' : Nat.gcd b (a % b) = Nat.gcd a0 b0 := by rw [← hg, Nat.gcd_comm b, ← Nat.gcd_rec, Nat.gcd_comm]
      by_cases r0 : a % b = 0
      · rw [r0] at k6 hg'
        rw [Nat.gcd_zero_right] at hg'
        exact stop b (st + 1) L' (by omega) hg' k4 k6 k8 hq
      · refine step b (a % b) (st + 1) L' (by omega) (by omega) hb63 (by omega) k4 k6 k8 ?_
        intro L2 j4 j6 j8
        have hh := mod_half (by omega) hr hb
        have hr2 : b % (a % b) < a % b := Nat.mod_lt _ (by omega)
        refine ih (a % b) (b % (a % b)) (st + 2) L2 hh (by omega) (by omega) (by omega) ?_ j4 j6 j8 hq
        rw [← hg', Nat.gcd_comm (a % b), ← Nat.gcd_rec, Nat.gcd_comm]
theorem c_Vis_gcd {a b : Nat} (ha : a < 2 ^ 63) (hb : b < 2 ^ 63) (h : Q (some (.long (lN (Nat.gcd a b)))) sh I J P) : MW g false (d + 1) 0 0 m_Vis_commonDivisor [.long (lN a), .long (lN b)] sh I J P Q := by
  refine MW.of ok_Vis_commonDivisor (Nat.le_of_ble_eq_true rfl) ?_
  refine cp_run 20 (fun t => t == 9) ck_Vis_commonDivisor ?_
  simp only [cp_vc, cp_vs, cp_jm, cp_ent_en, cp_en_int, cp_en_ref, cp_en_ret, cp_en_long, cp_en_nil, cp_s1_at, cp_s2_at, cp_nl_int, cp_nl_ref, cp_nl_long, cp_nl_none, cp_pop_0, cp_pop_s, reduceIte, if_true, if_false, Bool.false_eq_true, Bool.true_eq_false, false_implies, implies_true, forall_const, true_implies, true_and, and_true, and_self, true_or, or_true, false_or, or_false, Value.category, List.length_cons, List.length_nil, Option.toList_some, Option.toList_none, List.cons_append, List.nil_append, List.append_nil, Prod.mk.injEq, Nat.add_zero, Nat.zero_add, Nat.reduceAdd, Nat.reduceSub, Nat.reduceEqDiff, Nat.reduceLeDiff, Nat.reduceLT, Nat.le_refl, beq_self_eq_true, Nat.reduceBEq, ne_eq, not_true_eq_false, not_false_eq_true, Int32.reduceAdd, Int32.reduceSub, Int32.reduceMul, Int32.reduceLE, Int32.reduceLT, Int32.reduceToNatClampNeg, b01_0, b01_1, ne_2_0, ne_3_0, ne_4_0, ne_5_0, ne_6_0, ne_m1_0, ne_m2_0, b01_01, b01_n, lt_m2, lt_m1, le_m2, le_m1, Classical.not_not, j_Vis_commonDivisor_0, b_Vis_commonDivisor_0, j_Vis_commonDivisor_45, b_Vis_commonDivisor_45, an_0, an_1, cl_0, ne_0_1, ne_1_0, vi_0]
  refine lp_Vis_gcd (a0 := a) (b0 := b) 63 a b 0 _ hb (by omega) ha hb rfl ?_ ?_ ?_ h
  · simp [cp_s1_at, cp_s2_at, cp_nl_long]
  · simp [cp_s1_at, cp_s2_at, cp_nl_long]
  · simp [cp_s1_at, nI_0]
theorem c_Vis_lowest {up dn : Nat} {w : Int32} (hu : up < 2 ^ 63) (hd : dn < 2 ^ 63) (h0 : 0 < dn) (h : Q (some (.long (sp_lo up dn w))) sh I J P) : MW g false (d + 2) 0 0 m_Vis_inLowestTerms [.long (lN up), .long (lN dn), .int w] sh I J P Q := by
  have hg : 0 < Nat.gcd up dn := Nat.gcd_pos_of_pos_right _ h0
  have hg2 : Nat.gcd up dn ≤ dn := Nat.gcd_le_right _ h0
  have e3 : ¬ lN (Nat.gcd up dn) = 0 := by rw [show (0 : Int64) = lN 0 from rfl, pk_lEQ (by omega) (Nat.two_pow_pos 63)]; omega
  have ec : (0 : Int32) < lg_cmp (lN (Nat.gcd up dn)) 0 := by
    have hlt : (0 : Int64) < lN (Nat.gcd up dn) := by
      rw [show (0 : Int64) = lN 0 from rfl]
      exact (pk_lLT (Nat.two_pow_pos 63) (by omega)).2 hg
    exact (lg_cmp_gt _ _).2 hlt
  unfold sp_lo at h
  rw [Nat.gcd_comm dn up] at h
  refine MW.of ok_Vis_inLowestTerms (Nat.le_of_ble_eq_true rfl) ?_
  refine cp_run 40 (fun _ => false) ck_Vis_inLowestTerms ?_
  simp only [cp_vc, cp_vs, cp_jm, cp_ent_en, cp_en_int, cp_en_ref, cp_en_ret, cp_en_long, cp_en_nil, cp_s1_at, cp_s2_at, cp_nl_int, cp_nl_ref, cp_nl_long, cp_nl_none, cp_pop_0, cp_pop_s, reduceIte, if_true, if_false, Bool.false_eq_true, Bool.true_eq_false, false_implies, implies_true, forall_const, true_implies, true_and, and_true, and_self, true_or, or_true, false_or, or_false, Value.category, List.length_cons, List.length_nil, Option.toList_some, Option.toList_none, List.cons_append, List.nil_append, List.append_nil, Prod.mk.injEq, Nat.add_zero, Nat.zero_add, Nat.reduceAdd, Nat.reduceSub, Nat.reduceEqDiff, Nat.reduceLeDiff, Nat.reduceLT, Nat.le_refl, beq_self_eq_true, Nat.reduceBEq, ne_eq, not_true_eq_false, not_false_eq_true, Int32.reduceAdd, Int32.reduceSub, Int32.reduceMul, Int32.reduceLE, Int32.reduceLT, Int32.reduceToNatClampNeg, b01_0, b01_1, ne_2_0, ne_3_0, ne_4_0, ne_5_0, ne_6_0, ne_m1_0, ne_m2_0, b01_01, b01_n, lt_m2, lt_m1, le_m2, le_m1, Classical.not_not, j_Vis_inLowestTerms_0, b_Vis_inLowestTerms_0, j_Vis_inLowestTerms_23, b_Vis_inLowestTerms_23, j_Vis_inLowestTerms_24, b_Vis_inLowestTerms_24, j_Vis_inLowestTerms_25, b_Vis_inLowestTerms_25, j_Vis_inLowestTerms_37, b_Vis_inLowestTerms_37, j_Vis_inLowestTerms_41, b_Vis_inLowestTerms_41, an_0, an_1, ne_0_1, ne_1_0]
  refine c_Vis_gcd hu hd ?_
  simp only [cp_kk, cp_vc, cp_vs, cp_jm, cp_ent_en, cp_en_int, cp_en_ref, cp_en_ret, cp_en_long, cp_en_nil, cp_s1_at, cp_s2_at, cp_nl_int, cp_nl_ref, cp_nl_long, cp_nl_none, cp_pop_0, cp_pop_s, reduceIte, if_true, if_false, Bool.false_eq_true, Bool.true_eq_false, false_implies, implies_true, forall_const, true_implies, true_and, and_true, and_self, true_or, or_true, false_or, or_false, Value.category, List.length_cons, List.length_nil, Option.toList_some, Option.toList_none, List.cons_append, List.nil_append, List.append_nil, Prod.mk.injEq, Nat.add_zero, Nat.zero_add, Nat.reduceAdd, Nat.reduceSub, Nat.reduceEqDiff, Nat.reduceLeDiff, Nat.reduceLT, Nat.le_refl, beq_self_eq_true, Nat.reduceBEq, ne_eq, not_true_eq_false, not_false_eq_true, Int32.reduceAdd, Int32.reduceSub, Int32.reduceMul, Int32.reduceLE, Int32.reduceLT, Int32.reduceToNatClampNeg, b01_0, b01_1, ne_2_0, ne_3_0, ne_4_0, ne_5_0, ne_6_0, ne_m1_0, ne_m2_0, b01_01, b01_n, lt_m2, lt_m1, le_m2, le_m1, Classical.not_not, Bool.or_false, Bool.false_or, Bool.true_or, Bool.or_true, j_Vis_inLowestTerms_0, b_Vis_inLowestTerms_0, j_Vis_inLowestTerms_23, b_Vis_inLowestTerms_23, j_Vis_inLowestTerms_24, b_Vis_inLowestTerms_24, j_Vis_inLowestTerms_25, b_Vis_inLowestTerms_25, j_Vis_inLowestTerms_37, b_Vis_inLowestTerms_37, j_Vis_inLowestTerms_41, b_Vis_inLowestTerms_41, an_0, an_1, ne_0_1, ne_1_0, ec, e3, pk_lDiv hu hg (show Nat.gcd up dn < 2 ^ 63 by omega), pk_lDiv hd hg (show Nat.gcd up dn < 2 ^ 63 by omega)]
  refine ⟨fun q => ?_, fun q => ?_⟩
  · rw [if_pos q] at h
    exact h
  · rw [if_neg q] at h
    exact h
end Vis1
