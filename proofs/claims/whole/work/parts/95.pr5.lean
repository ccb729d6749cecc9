section Pr5
variable {g : cp_G} {d : Nat} {sh : cp_H} {I M N : cp_I} {J : cp_J} {P : cp_P} {Q : cp_QT} {t u r x n : Nat}
theorem pr_bather {bb w : Int32} (h : Iv I t u) : PR g d m_CP_bather m_Mod_bather [.int bb, .int w] I J t u r x := by
  obtain ⟨⟨n, s, m, h0⟩, -, -⟩ := h
  have hB := h0.1
  have b0 := (iv_rf h0 1).1
  have b1 := (iv_rf h0 0).1
  have h6 := iv_n6 hB
  have ht := iv_tk hB
  unfold PR
  refine MW.of ok_CP_bather (Nat.le_of_ble_eq_true rfl) ?_
  refine cp_run 40 (fun _ => false) ck_CP_bather ?_
  simp only [cp_vc, cp_vs, cp_jm, cp_ent_en, cp_en_int, cp_en_ref, cp_en_ret, cp_en_long, cp_en_nil, cp_s1_at, cp_s2_at, cp_nl_int, cp_nl_ref, cp_nl_long, cp_nl_none, cp_pop_0, cp_pop_s, reduceIte, if_true, if_false, Bool.false_eq_true, Bool.true_eq_false, false_implies, implies_true, forall_const, true_implies, true_and, and_true, and_self, true_or, or_true, false_or, or_false, Value.category, List.length_cons, List.length_nil, Option.toList_some, Option.toList_none, List.cons_append, List.nil_append, List.append_nil, Prod.mk.injEq, Nat.add_zero, Nat.zero_add, Nat.reduceAdd, Nat.reduceSub, Nat.reduceEqDiff, Nat.reduceLeDiff, Nat.reduceLT, Nat.le_refl, beq_self_eq_true, Nat.reduceBEq, ne_eq, not_true_eq_false, not_false_eq_true, Int32.reduceAdd, Int32.reduceSub, Int32.reduceMul, Int32.reduceLE, Int32.reduceLT, Int32.reduceToNatClampNeg, b01_0, b01_1, ne_2_0, ne_3_0, ne_4_0, ne_5_0, ne_6_0, ne_m1_0, ne_m2_0, b01_01, b01_n, lt_m2, lt_m1, le_m2, le_m1, Classical.not_not, j_CP_bather_0, b_CP_bather_0, j_CP_bather_10, b_CP_bather_10, j_CP_bather_52, b_CP_bather_52, j_CP_bather_65, b_CP_bather_65, j_CP_bather_78, b_CP_bather_78, j_CP_bather_90, b_CP_bather_90, j_CP_bather_102, b_CP_bather_102, j_CP_bather_112, b_CP_bather_112, j_CP_bather_122, b_CP_bather_122, j_CP_bather_141, b_CP_bather_141, an_0, an_1, cl_1, ne_0_1, ne_0_m1, ne_1_0, ne_1_m1, ne_m1_0, ne_m1_1, pp_0_7, pp_15_0, pp_15_4, pp_15_5, sh_0, sh_15, sh_26, sh_27, vi_1]
  refine c_CP_isBather (n := n) (iv_tk hB) (iv_n6 hB) (iv_cn hB) ?_ ?_
  · intro b hb hbb
    subst hbb
    have fin : ∀ (k : Nat) (v : Int32), k < 7 → v = rbv (rfu I 0) n s b k → QA g d m_Mod_bather [.int (nI b), .int (nI k)] (some (.int v)) SH (rfu I 0) J (PP t u r x) := fun k v hk hv => by
      refine mid_i ?_
      refine c_Mod_bather (iv_n6 b1) (iv_n b1) (iv_64 b1) (iv_st b1) (b := b) (fun _ => ⟨rfl, hb⟩) ?_ ?_
      · intro k' _ e hk'
        have e' : k = k' := (nI_eq (by omega) (by omega)).1 e
        subst e'
        exact fin_i hv.symm (iv_rg h0)
      · intro e
        refine absurd ⟨iv_isB b1 hb, nI_pos (show k < 2 ^ 31 by omega), ?_⟩ e
        exact nI_nlt (a := 6) (show k ≤ 6 by omega) (by omega)
    have v1 := vin (show b < 6 by omega) (by omega)
    have w1 := ncl (show b < 1000 by omega)
    have w3 := hb_val (iv_64 b1) (show b < 8 by omega)
    have hk26 := (iv_KF b1) b hb
    by_cases hw : ∃ k : Nat, k < 7 ∧ w = nI k
    · obtain ⟨k, hk, rfl⟩ := hw
      rcases (show k = 0 ∨ k = 1 ∨ k = 2 ∨ k = 3 ∨ k = 4 ∨ k = 5 ∨ k = 6 by omega) with rfl | rfl | rfl | rfl | rfl | rfl | rfl
      · have fk := fin 0
        rw [show nI 0 = (0 : Int32) from rfl] at fk ⊢
        simp only [cp_kk, cp_vc, cp_vs, cp_jm, cp_ent_en, cp_en_int, cp_en_ref, cp_en_ret, cp_en_long, cp_en_nil, cp_s1_at, cp_s2_at, cp_nl_int, cp_nl_ref, cp_nl_long, cp_nl_none, cp_pop_0, cp_pop_s, reduceIte, if_true, if_false, Bool.false_eq_true, Bool.true_eq_false, false_implies, implies_true, forall_const, true_implies, true_and, and_true, and_self, true_or, or_true, false_or, or_false, Value.category, List.length_cons, List.length_nil, Option.toList_some, Option.toList_none, List.cons_append, List.nil_append, List.append_nil, Prod.mk.injEq, Nat.add_zero, Nat.zero_add, Nat.reduceAdd, Nat.reduceSub, Nat.reduceEqDiff, Nat.reduceLeDiff, Nat.reduceLT, Nat.le_refl, beq_self_eq_true, Nat.reduceBEq, ne_eq, not_true_eq_false, not_false_eq_true, Int32.reduceAdd, Int32.reduceSub, Int32.reduceMul, Int32.reduceLE, Int32.reduceLT, Int32.reduceToNatClampNeg, b01_0, b01_1, ne_2_0, ne_3_0, ne_4_0, ne_5_0, ne_6_0, ne_m1_0, ne_m2_0, b01_01, b01_n, lt_m2, lt_m1, le_m2, le_m1, Classical.not_not, Bool.or_false, Bool.false_or, Bool.true_or, Bool.or_true, j_CP_bather_0, b_CP_bather_0, j_CP_bather_10, b_CP_bather_10, j_CP_bather_52, b_CP_bather_52, j_CP_bather_65, b_CP_bather_65, j_CP_bather_78, b_CP_bather_78, j_CP_bather_90, b_CP_bather_90, j_CP_bather_102, b_CP_bather_102, j_CP_bather_112, b_CP_bather_112, j_CP_bather_122, b_CP_bather_122, j_CP_bather_141, b_CP_bather_141, an_0, an_1, cl_1, ne_0_1, ne_0_m1, ne_1_0, ne_1_m1, ne_m1_0, ne_m1_1, pp_0_7, pp_15_0, pp_15_4, pp_15_5, sh_0, sh_15, sh_26, sh_27, vi_1, cp_sw, ti_0, Int.reduceLT, Int.reduceEq, Int.reduceAdd, or_self, false_implies, pp_15_0, sT0 ht, sT1 ht, sT2 ht, sT3 ht, sT4 ht, sT5 ht, sT6 ht, sT7 ht, sT8 ht, sT9 ht, pT1 ht, pT2 ht, pT3 ht, pT4 ht, pT5 ht, pT6 ht, pT7 ht, pT8 ht, pT9 ht, v1, w1, iv_in b1, w3]
        exact fk _ (by omega) (iv_kb b1 hb).1
      · have fk := fin 1
        rw [show nI 1 = (1 : Int32) from rfl] at fk ⊢
        simp only [cp_kk, cp_vc, cp_vs, cp_jm, cp_ent_en, cp_en_int, cp_en_ref, cp_en_ret, cp_en_long, cp_en_nil, cp_s1_at, cp_s2_at, cp_nl_int, cp_nl_ref, cp_nl_long, cp_nl_none, cp_pop_0, cp_pop_s, reduceIte, if_true, if_false, Bool.false_eq_true, Bool.true_eq_false, false_implies, implies_true, forall_const, true_implies, true_and, and_true, and_self, true_or, or_true, false_or, or_false, Value.category, List.length_cons, List.length_nil, Option.toList_some, Option.toList_none, List.cons_append, List.nil_append, List.append_nil, Prod.mk.injEq, Nat.add_zero, Nat.zero_add, Nat.reduceAdd, Nat.reduceSub, Nat.reduceEqDiff, Nat.reduceLeDiff, Nat.reduceLT, Nat.le_refl, beq_self_eq_true, Nat.reduceBEq, ne_eq, not_true_eq_false, not_false_eq_true, Int32.reduceAdd, Int32.reduceSub, Int32.reduceMul, Int32.reduceLE, Int32.reduceLT, Int32.reduceToNatClampNeg, b01_0, b01_1, ne_2_0, ne_3_0, ne_4_0, ne_5_0, ne_6_0, ne_m1_0, ne_m2_0, b01_01, b01_n, lt_m2, lt_m1, le_m2, le_m1, Classical.not_not, Bool.or_false, Bool.false_or, Bool.true_or, Bool.or_true, j_CP_bather_0, b_CP_bather_0, j_CP_bather_10, b_CP_bather_10, j_CP_bather_52, b_CP_bather_52, j_CP_bather_65, b_CP_bather_65, j_CP_bather_78, b_CP_bather_78, j_CP_bather_90, b_CP_bather_90, j_CP_bather_102, b_CP_bather_102, j_CP_bather_112, b_CP_bather_112, j_CP_bather_122, b_CP_bather_122, j_CP_bather_141, b_CP_bather_141, an_0, an_1, cl_1, ne_0_1, ne_0_m1, ne_1_0, ne_1_m1, ne_m1_0, ne_m1_1, pp_0_7, pp_15_0, pp_15_4, pp_15_5, sh_0, sh_15, sh_26, sh_27, vi_1, cp_sw, ti_1, Int.reduceLT, Int.reduceEq, Int.reduceAdd, or_self, false_implies, pp_15_0, sT0 ht, sT1 ht, sT2 ht, sT3 ht, sT4 ht, sT5 ht, sT6 ht, sT7 ht, sT8 ht, sT9 ht, pT1 ht, pT2 ht, pT3 ht, pT4 ht, pT5 ht, pT6 ht, pT7 ht, pT8 ht, pT9 ht, v1, w1, iv_in b1, w3]
        exact fk _ (by omega) (iv_kb b1 hb).2
      · have fk := fin 2
        rw [show nI 2 = (2 : Int32) from rfl] at fk ⊢
        simp only [cp_kk, cp_vc, cp_vs, cp_jm, cp_ent_en, cp_en_int, cp_en_ref, cp_en_ret, cp_en_long, cp_en_nil, cp_s1_at, cp_s2_at, cp_nl_int, cp_nl_ref, cp_nl_long, cp_nl_none, cp_pop_0, cp_pop_s, reduceIte, if_true, if_false, Bool.false_eq_true, Bool.true_eq_false, false_implies, implies_true, forall_const, true_implies, true_and, and_true, and_self, true_or, or_true, false_or, or_false, Value.category, List.length_cons, List.length_nil, Option.toList_some, Option.toList_none, List.cons_append, List.nil_append, List.append_nil, Prod.mk.injEq, Nat.add_zero, Nat.zero_add, Nat.reduceAdd, Nat.reduceSub, Nat.reduceEqDiff, Nat.reduceLeDiff, Nat.reduceLT, Nat.le_refl, beq_self_eq_true, Nat.reduceBEq, ne_eq, not_true_eq_false, not_false_eq_true, Int32.reduceAdd, Int32.reduceSub, Int32.reduceMul, Int32.reduceLE, Int32.reduceLT, Int32.reduceToNatClampNeg, b01_0, b01_1, ne_2_0, ne_3_0, ne_4_0, ne_5_0, ne_6_0, ne_m1_0, ne_m2_0, b01_01, b01_n, lt_m2, lt_m1, le_m2, le_m1, Classical.not_not, Bool.or_false, Bool.false_or, Bool.true_or, Bool.or_true, j_CP_bather_0, b_CP_bather_0, j_CP_bather_10, b_CP_bather_10, j_CP_bather_52, b_CP_bather_52, j_CP_bather_65, b_CP_bather_65, j_CP_bather_78, b_CP_bather_78, j_CP_bather_90, b_CP_bather_90, j_CP_bather_102, b_CP_bather_102, j_CP_bather_112, b_CP_bather_112, j_CP_bather_122, b_CP_bather_122, j_CP_bather_141, b_CP_bather_141, an_0, an_1, cl_1, ne_0_1, ne_0_m1, ne_1_0, ne_1_m1, ne_m1_0, ne_m1_1, pp_0_7, pp_15_0, pp_15_4, pp_15_5, sh_0, sh_15, sh_26, sh_27, vi_1, cp_sw, ti_2, Int.reduceLT, Int.reduceEq, Int.reduceAdd, or_self, false_implies, pp_15_0, sT0 ht, sT1 ht, sT2 ht, sT3 ht, sT4 ht, sT5 ht, sT6 ht, sT7 ht, sT8 ht, sT9 ht, pT1 ht, pT2 ht, pT3 ht, pT4 ht, pT5 ht, pT6 ht, pT7 ht, pT8 ht, pT9 ht, v1, w1, iv_in b1, w3]
        refine c_Told_needOf ht (by omega) ((iv_cT b1).2.2.2 b hb) ?_
        simp only [cp_kk, cp_vc, cp_vs, cp_jm, cp_ent_en, cp_en_int, cp_en_ref, cp_en_ret, cp_en_long, cp_en_nil, cp_s1_at, cp_s2_at, cp_nl_int, cp_nl_ref, cp_nl_long, cp_nl_none, cp_pop_0, cp_pop_s, reduceIte, if_true, if_false, Bool.false_eq_true, Bool.true_eq_false, false_implies, implies_true, forall_const, true_implies, true_and, and_true, and_self, true_or, or_true, false_or, or_false, Value.category, List.length_cons, List.length_nil, Option.toList_some, Option.toList_none, List.cons_append, List.nil_append, List.append_nil, Prod.mk.injEq, Nat.add_zero, Nat.zero_add, Nat.reduceAdd, Nat.reduceSub, Nat.reduceEqDiff, Nat.reduceLeDiff, Nat.reduceLT, Nat.le_refl, beq_self_eq_true, Nat.reduceBEq, ne_eq, not_true_eq_false, not_false_eq_true, Int32.reduceAdd, Int32.reduceSub, Int32.reduceMul, Int32.reduceLE, Int32.reduceLT, Int32.reduceToNatClampNeg, b01_0, b01_1, ne_2_0, ne_3_0, ne_4_0, ne_5_0, ne_6_0, ne_m1_0, ne_m2_0, b01_01, b01_n, lt_m2, lt_m1, le_m2, le_m1, Classical.not_not, Bool.or_false, Bool.false_or, Bool.true_or, Bool.or_true, j_CP_bather_0, b_CP_bather_0, j_CP_bather_10, b_CP_bather_10, j_CP_bather_52, b_CP_bather_52, j_CP_bather_65, b_CP_bather_65, j_CP_bather_78, b_CP_bather_78, j_CP_bather_90, b_CP_bather_90, j_CP_bather_102, b_CP_bather_102, j_CP_bather_112, b_CP_bather_112, j_CP_bather_122, b_CP_bather_122, j_CP_bather_141, b_CP_bather_141, an_0, an_1, cl_1, ne_0_1, ne_0_m1, ne_1_0, ne_1_m1, ne_m1_0, ne_m1_1, pp_0_7, pp_15_0, pp_15_4, pp_15_5, sh_0, sh_15, sh_26, sh_27, vi_1]
        exact fk _ (by omega) (iv_nd b1 hb)
      · have fk := fin 3
        rw [show nI 3 = (3 : Int32) from rfl] at fk ⊢
        simp only [cp_kk, cp_vc, cp_vs, cp_jm, cp_ent_en, cp_en_int, cp_en_ref, cp_en_ret, cp_en_long, cp_en_nil, cp_s1_at, cp_s2_at, cp_nl_int, cp_nl_ref, cp_nl_long, cp_nl_none, cp_pop_0, cp_pop_s, reduceIte, if_true, if_false, Bool.false_eq_true, Bool.true_eq_false, false_implies, implies_true, forall_const, true_implies, true_and, and_true, and_self, true_or, or_true, false_or, or_false, Value.category, List.length_cons, List.length_nil, Option.toList_some, Option.toList_none, List.cons_append, List.nil_append, List.append_nil, Prod.mk.injEq, Nat.add_zero, Nat.zero_add, Nat.reduceAdd, Nat.reduceSub, Nat.reduceEqDiff, Nat.reduceLeDiff, Nat.reduceLT, Nat.le_refl, beq_self_eq_true, Nat.reduceBEq, ne_eq, not_true_eq_false, not_false_eq_true, Int32.reduceAdd, Int32.reduceSub, Int32.reduceMul, Int32.reduceLE, Int32.reduceLT, Int32.reduceToNatClampNeg, b01_0, b01_1, ne_2_0, ne_3_0, ne_4_0, ne_5_0, ne_6_0, ne_m1_0, ne_m2_0, b01_01, b01_n, lt_m2, lt_m1, le_m2, le_m1, Classical.not_not, Bool.or_false, Bool.false_or, Bool.true_or, Bool.or_true, j_CP_bather_0, b_CP_bather_0, j_CP_bather_10, b_CP_bather_10, j_CP_bather_52, b_CP_bather_52, j_CP_bather_65, b_CP_bather_65, j_CP_bather_78, b_CP_bather_78, j_CP_bather_90, b_CP_bather_90, j_CP_bather_102, b_CP_bather_102, j_CP_bather_112, b_CP_bather_112, j_CP_bather_122, b_CP_bather_122, j_CP_bather_141, b_CP_bather_141, an_0, an_1, cl_1, ne_0_1, ne_0_m1, ne_1_0, ne_1_m1, ne_m1_0, ne_m1_1, pp_0_7, pp_15_0, pp_15_4, pp_15_5, sh_0, sh_15, sh_26, sh_27, vi_1, cp_sw, ti_3, Int.reduceLT, Int.reduceEq, Int.reduceAdd, or_self, false_implies, pp_15_0, sT0 ht, sT1 ht, sT2 ht, sT3 ht, sT4 ht, sT5 ht, sT6 ht, sT7 ht, sT8 ht, sT9 ht, pT1 ht, pT2 ht, pT3 ht, pT4 ht, pT5 ht, pT6 ht, pT7 ht, pT8 ht, pT9 ht, v1, w1, iv_in b1, w3]
        exact fk _ (by omega) rfl
      · have fk := fin 4
        rw [show nI 4 = (4 : Int32) from rfl] at fk ⊢
        simp only [cp_kk, cp_vc, cp_vs, cp_jm, cp_ent_en, cp_en_int, cp_en_ref, cp_en_ret, cp_en_long, cp_en_nil, cp_s1_at, cp_s2_at, cp_nl_int, cp_nl_ref, cp_nl_long, cp_nl_none, cp_pop_0, cp_pop_s, reduceIte, if_true, if_false, Bool.false_eq_true, Bool.true_eq_false, false_implies, implies_true, forall_const, true_implies, true_and, and_true, and_self, true_or, or_true, false_or, or_false, Value.category, List.length_cons, List.length_nil, Option.toList_some, Option.toList_none, List.cons_append, List.nil_append, List.append_nil, Prod.mk.injEq, Nat.add_zero, Nat.zero_add, Nat.reduceAdd, Nat.reduceSub, Nat.reduceEqDiff, Nat.reduceLeDiff, Nat.reduceLT, Nat.le_refl, beq_self_eq_true, Nat.reduceBEq, ne_eq, not_true_eq_false, not_false_eq_true, Int32.reduceAdd, Int32.reduceSub, Int32.reduceMul, Int32.reduceLE, Int32.reduceLT, Int32.reduceToNatClampNeg, b01_0, b01_1, ne_2_0, ne_3_0, ne_4_0, ne_5_0, ne_6_0, ne_m1_0, ne_m2_0, b01_01, b01_n, lt_m2, lt_m1, le_m2, le_m1, Classical.not_not, Bool.or_false, Bool.false_or, Bool.true_or, Bool.or_true, j_CP_bather_0, b_CP_bather_0, j_CP_bather_10, b_CP_bather_10, j_CP_bather_52, b_CP_bather_52, j_CP_bather_65, b_CP_bather_65, j_CP_bather_78, b_CP_bather_78, j_CP_bather_90, b_CP_bather_90, j_CP_bather_102, b_CP_bather_102, j_CP_bather_112, b_CP_bather_112, j_CP_bather_122, b_CP_bather_122, j_CP_bather_141, b_CP_bather_141, an_0, an_1, cl_1, ne_0_1, ne_0_m1, ne_1_0, ne_1_m1, ne_m1_0, ne_m1_1, pp_0_7, pp_15_0, pp_15_4, pp_15_5, sh_0, sh_15, sh_26, sh_27, vi_1, cp_sw, ti_4, Int.reduceLT, Int.reduceEq, Int.reduceAdd, or_self, false_implies, pp_15_0, sT0 ht, sT1 ht, sT2 ht, sT3 ht, sT4 ht, sT5 ht, sT6 ht, sT7 ht, sT8 ht, sT9 ht, pT1 ht, pT2 ht, pT3 ht, pT4 ht, pT5 ht, pT6 ht, pT7 ht, pT8 ht, pT9 ht, v1, w1, iv_in b1, w3]
        exact fk _ (by omega) hk26.1
      · have fk := fin 5
        rw [show nI 5 = (5 : Int32) from rfl] at fk ⊢
        simp only [cp_kk, cp_vc, cp_vs, cp_jm, cp_ent_en, cp_en_int, cp_en_ref, cp_en_ret, cp_en_long, cp_en_nil, cp_s1_at, cp_s2_at, cp_nl_int, cp_nl_ref, cp_nl_long, cp_nl_none, cp_pop_0, cp_pop_s, reduceIte, if_true, if_false, Bool.false_eq_true, Bool.true_eq_false, false_implies, implies_true, forall_const, true_implies, true_and, and_true, and_self, true_or, or_true, false_or, or_false, Value.category, List.length_cons, List.length_nil, Option.toList_some, Option.toList_none, List.cons_append, List.nil_append, List.append_nil, Prod.mk.injEq, Nat.add_zero, Nat.zero_add, Nat.reduceAdd, Nat.reduceSub, Nat.reduceEqDiff, Nat.reduceLeDiff, Nat.reduceLT, Nat.le_refl, beq_self_eq_true, Nat.reduceBEq, ne_eq, not_true_eq_false, not_false_eq_true, Int32.reduceAdd, Int32.reduceSub, Int32.reduceMul, Int32.reduceLE, Int32.reduceLT, Int32.reduceToNatClampNeg, b01_0, b01_1, ne_2_0, ne_3_0, ne_4_0, ne_5_0, ne_6_0, ne_m1_0, ne_m2_0, b01_01, b01_n, lt_m2, lt_m1, le_m2, le_m1, Classical.not_not, Bool.or_false, Bool.false_or, Bool.true_or, Bool.or_true, j_CP_bather_0, b_CP_bather_0, j_CP_bather_10, b_CP_bather_10, j_CP_bather_52, b_CP_bather_52, j_CP_bather_65, b_CP_bather_65, j_CP_bather_78, b_CP_bather_78, j_CP_bather_90, b_CP_bather_90, j_CP_bather_102, b_CP_bather_102, j_CP_bather_112, b_CP_bather_112, j_CP_bather_122, b_CP_bather_122, j_CP_bather_141, b_CP_bather_141, an_0, an_1, cl_1, ne_0_1, ne_0_m1, ne_1_0, ne_1_m1, ne_m1_0, ne_m1_1, pp_0_7, pp_15_0, pp_15_4, pp_15_5, sh_0, sh_15, sh_26, sh_27, vi_1, cp_sw, ti_5, Int.reduceLT, Int.reduceEq, Int.reduceAdd, or_self, false_implies, pp_15_0, sT0 ht, sT1 ht, sT2 ht, sT3 ht, sT4 ht, sT5 ht, sT6 ht, sT7 ht, sT8 ht, sT9 ht, pT1 ht, pT2 ht, pT3 ht, pT4 ht, pT5 ht, pT6 ht, pT7 ht, pT8 ht, pT9 ht, v1, w1, iv_in b1, w3]
        exact fk _ (by omega) hk26.2.2.1
      · have fk := fin 6
        rw [show nI 6 = (6 : Int32) from rfl] at fk ⊢
        simp only [cp_kk, cp_vc, cp_vs, cp_jm, cp_ent_en, cp_en_int, cp_en_ref, cp_en_ret, cp_en_long, cp_en_nil, cp_s1_at, cp_s2_at, cp_nl_int, cp_nl_ref, cp_nl_long, cp_nl_none, cp_pop_0, cp_pop_s, reduceIte, if_true, if_false, Bool.false_eq_true, Bool.true_eq_false, false_implies, implies_true, forall_const, true_implies, true_and, and_true, and_self, true_or, or_true, false_or, or_false, Value.category, List.length_cons, List.length_nil, Option.toList_some, Option.toList_none, List.cons_append, List.nil_append, List.append_nil, Prod.mk.injEq, Nat.add_zero, Nat.zero_add, Nat.reduceAdd, Nat.reduceSub, Nat.reduceEqDiff, Nat.reduceLeDiff, Nat.reduceLT, Nat.le_refl, beq_self_eq_true, Nat.reduceBEq, ne_eq, not_true_eq_false, not_false_eq_true, Int32.reduceAdd, Int32.reduceSub, Int32.reduceMul, Int32.reduceLE, Int32.reduceLT, Int32.reduceToNatClampNeg, b01_0, b01_1, ne_2_0, ne_3_0, ne_4_0, ne_5_0, ne_6_0, ne_m1_0, ne_m2_0, b01_01, b01_n, lt_m2, lt_m1, le_m2, le_m1, Classical.not_not, Bool.or_false, Bool.false_or, Bool.true_or, Bool.or_true, j_CP_bather_0, b_CP_bather_0, j_CP_bather_10, b_CP_bather_10, j_CP_bather_52, b_CP_bather_52, j_CP_bather_65, b_CP_bather_65, j_CP_bather_78, b_CP_bather_78, j_CP_bather_90, b_CP_bather_90, j_CP_bather_102, b_CP_bather_102, j_CP_bather_112, b_CP_bather_112, j_CP_bather_122, b_CP_bather_122, j_CP_bather_141, b_CP_bather_141, an_0, an_1, cl_1, ne_0_1, ne_0_m1, ne_1_0, ne_1_m1, ne_m1_0, ne_m1_1, pp_0_7, pp_15_0, pp_15_4, pp_15_5, sh_0, sh_15, sh_26, sh_27, vi_1, cp_sw, ti_6, Int.reduceLT, Int.reduceEq, Int.reduceAdd, or_self, false_implies, pp_15_0, sT0 ht, sT1 ht, sT2 ht, sT3 ht, sT4 ht, sT5 ht, sT6 ht, sT7 ht, sT8 ht, sT9 ht, pT1 ht, pT2 ht, pT3 ht, pT4 ht, pT5 ht, pT6 ht, pT7 ht, pT8 ht, pT9 ht, v1, w1, iv_in b1, w3]
        refine c_Bath_bearers (iv_cT b1) (iv_64 b1) ?_
        rw [iv_cb b1 (iv_s b1)]
        simp only [cp_kk, cp_vc, cp_vs, cp_jm, cp_ent_en, cp_en_int, cp_en_ref, cp_en_ret, cp_en_long, cp_en_nil, cp_s1_at, cp_s2_at, cp_nl_int, cp_nl_ref, cp_nl_long, cp_nl_none, cp_pop_0, cp_pop_s, reduceIte, if_true, if_false, Bool.false_eq_true, Bool.true_eq_false, false_implies, implies_true, forall_const, true_implies, true_and, and_true, and_self, true_or, or_true, false_or, or_false, Value.category, List.length_cons, List.length_nil, Option.toList_some, Option.toList_none, List.cons_append, List.nil_append, List.append_nil, Prod.mk.injEq, Nat.add_zero, Nat.zero_add, Nat.reduceAdd, Nat.reduceSub, Nat.reduceEqDiff, Nat.reduceLeDiff, Nat.reduceLT, Nat.le_refl, beq_self_eq_true, Nat.reduceBEq, ne_eq, not_true_eq_false, not_false_eq_true, Int32.reduceAdd, Int32.reduceSub, Int32.reduceMul, Int32.reduceLE, Int32.reduceLT, Int32.reduceToNatClampNeg, b01_0, b01_1, ne_2_0, ne_3_0, ne_4_0, ne_5_0, ne_6_0, ne_m1_0, ne_m2_0, b01_01, b01_n, lt_m2, lt_m1, le_m2, le_m1, Classical.not_not, Bool.or_false, Bool.false_or, Bool.true_or, Bool.or_true, j_CP_bather_0, b_CP_bather_0, j_CP_bather_10, b_CP_bather_10, j_CP_bather_52, b_CP_bather_52, j_CP_bather_65, b_CP_bather_65, j_CP_bather_78, b_CP_bather_78, j_CP_bather_90, b_CP_bather_90, j_CP_bather_102, b_CP_bather_102, j_CP_bather_112, b_CP_bather_112, j_CP_bather_122, b_CP_bather_122, j_CP_bather_141, b_CP_bather_141, an_0, an_1, cl_1, ne_0_1, ne_0_m1, ne_1_0, ne_1_m1, ne_m1_0, ne_m1_1, pp_0_7, pp_15_0, pp_15_4, pp_15_5, sh_0, sh_15, sh_26, sh_27, vi_1, hb_val (rb_lt (rfu I 0) (iv_n6 b1) 49 s) (show b < 8 by omega)]
        exact fk _ (by omega) rfl
    · have hr : w.toInt < 0 ∨ 6 < w.toInt := by
        by_cases c : w < 0
        · left
          rw [Int32.lt_iff_toInt_lt] at c
          exact c
        · right
          obtain ⟨k, hk, rfl⟩ := nI_of c
          have : ¬ k < 7 := fun q => hw ⟨k, q, rfl⟩
          rw [nI_toInt hk]
          omega
      have f0 : (w.toInt = 0) = False := eq_false (by omega)
      have f1 : (w.toInt = 1) = False := eq_false (by omega)
      have f2 : (w.toInt = 2) = False := eq_false (by omega)
      have f3 : (w.toInt = 3) = False := eq_false (by omega)
      have f4 : (w.toInt = 4) = False := eq_false (by omega)
      have f5 : (w.toInt = 5) = False := eq_false (by omega)
      have f6 : (w.toInt = 6) = False := eq_false (by omega)
      simp only [cp_kk, cp_vc, cp_vs, cp_jm, cp_ent_en, cp_en_int, cp_en_ref, cp_en_ret, cp_en_long, cp_en_nil, cp_s1_at, cp_s2_at, cp_nl_int, cp_nl_ref, cp_nl_long, cp_nl_none, cp_pop_0, cp_pop_s, reduceIte, if_true, if_false, Bool.false_eq_true, Bool.true_eq_false, false_implies, implies_true, forall_const, true_implies, true_and, and_true, and_self, true_or, or_true, false_or, or_false, Value.category, List.length_cons, List.length_nil, Option.toList_some, Option.toList_none, List.cons_append, List.nil_append, List.append_nil, Prod.mk.injEq, Nat.add_zero, Nat.zero_add, Nat.reduceAdd, Nat.reduceSub, Nat.reduceEqDiff, Nat.reduceLeDiff, Nat.reduceLT, Nat.le_refl, beq_self_eq_true, Nat.reduceBEq, ne_eq, not_true_eq_false, not_false_eq_true, Int32.reduceAdd, Int32.reduceSub, Int32.reduceMul, Int32.reduceLE, Int32.reduceLT, Int32.reduceToNatClampNeg, b01_0, b01_1, ne_2_0, ne_3_0, ne_4_0, ne_5_0, ne_6_0, ne_m1_0, ne_m2_0, b01_01, b01_n, lt_m2, lt_m1, le_m2, le_m1, Classical.not_not, Bool.or_false, Bool.false_or, Bool.true_or, Bool.or_true, j_CP_bather_0, b_CP_bather_0, j_CP_bather_10, b_CP_bather_10, j_CP_bather_52, b_CP_bather_52, j_CP_bather_65, b_CP_bather_65, j_CP_bather_78, b_CP_bather_78, j_CP_bather_90, b_CP_bather_90, j_CP_bather_102, b_CP_bather_102, j_CP_bather_112, b_CP_bather_112, j_CP_bather_122, b_CP_bather_122, j_CP_bather_141, b_CP_bather_141, an_0, an_1, cl_1, ne_0_1, ne_0_m1, ne_1_0, ne_1_m1, ne_m1_0, ne_m1_1, pp_0_7, pp_15_0, pp_15_4, pp_15_5, sh_0, sh_15, sh_26, sh_27, vi_1, cp_sw, Int.reduceAdd, f0, f1, f2, f3, f4, f5, f6, hr]
      refine c_CP_refuse ?_
      simp only [cp_kk, cp_vc, cp_vs, cp_jm, cp_ent_en, cp_en_int, cp_en_ref, cp_en_ret, cp_en_long, cp_en_nil, cp_s1_at, cp_s2_at, cp_nl_int, cp_nl_ref, cp_nl_long, cp_nl_none, cp_pop_0, cp_pop_s, reduceIte, if_true, if_false, Bool.false_eq_true, Bool.true_eq_false, false_implies, implies_true, forall_const, true_implies, true_and, and_true, and_self, true_or, or_true, false_or, or_false, Value.category, List.length_cons, List.length_nil, Option.toList_some, Option.toList_none, List.cons_append, List.nil_append, List.append_nil, Prod.mk.injEq, Nat.add_zero, Nat.zero_add, Nat.reduceAdd, Nat.reduceSub, Nat.reduceEqDiff, Nat.reduceLeDiff, Nat.reduceLT, Nat.le_refl, beq_self_eq_true, Nat.reduceBEq, ne_eq, not_true_eq_false, not_false_eq_true, Int32.reduceAdd, Int32.reduceSub, Int32.reduceMul, Int32.reduceLE, Int32.reduceLT, Int32.reduceToNatClampNeg, b01_0, b01_1, ne_2_0, ne_3_0, ne_4_0, ne_5_0, ne_6_0, ne_m1_0, ne_m2_0, b01_01, b01_n, lt_m2, lt_m1, le_m2, le_m1, Classical.not_not, Bool.or_false, Bool.false_or, Bool.true_or, Bool.or_true, j_CP_bather_0, b_CP_bather_0, j_CP_bather_10, b_CP_bather_10, j_CP_bather_52, b_CP_bather_52, j_CP_bather_65, b_CP_bather_65, j_CP_bather_78, b_CP_bather_78, j_CP_bather_90, b_CP_bather_90, j_CP_bather_102, b_CP_bather_102, j_CP_bather_112, b_CP_bather_112, j_CP_bather_122, b_CP_bather_122, j_CP_bather_141, b_CP_bather_141, an_0, an_1, cl_1, ne_0_1, ne_0_m1, ne_1_0, ne_1_m1, ne_m1_0, ne_m1_1, pp_0_7, pp_15_0, pp_15_4, pp_15_5, sh_0, sh_15, sh_26, sh_27, vi_1]
      rw [show rfu (rfu I 0) 1 = rfu I 1 from rfu_rfu]
      refine mid_i ?_
      refine c_Mod_bather (iv_n6 b0) (iv_n b0) (iv_64 b0) (iv_st b0) (b := b) (fun _ => ⟨rfl, hb⟩) ?_ ?_
      · intro k _ e hk
        exact absurd ⟨k, hk, e⟩ hw
      · intro _
        exact fin_i rfl (iv_rn h0 n14)
  · intro hb
    simp only [cp_kk, cp_vc, cp_vs, cp_jm, cp_ent_en, cp_en_int, cp_en_ref, cp_en_ret, cp_en_long, cp_en_nil, cp_s1_at, cp_s2_at, cp_nl_int, cp_nl_ref, cp_nl_long, cp_nl_none, cp_pop_0, cp_pop_s, reduceIte, if_true, if_false, Bool.false_eq_true, Bool.true_eq_false, false_implies, implies_true, forall_const, true_implies, true_and, and_true, and_self, true_or, or_true, false_or, or_false, Value.category, List.length_cons, List.length_nil, Option.toList_some, Option.toList_none, List.cons_append, List.nil_append, List.append_nil, Prod.mk.injEq, Nat.add_zero, Nat.zero_add, Nat.reduceAdd, Nat.reduceSub, Nat.reduceEqDiff, Nat.reduceLeDiff, Nat.reduceLT, Nat.le_refl, beq_self_eq_true, Nat.reduceBEq, ne_eq, not_true_eq_false, not_false_eq_true, Int32.reduceAdd, Int32.reduceSub, Int32.reduceMul, Int32.reduceLE, Int32.reduceLT, Int32.reduceToNatClampNeg, b01_0, b01_1, ne_2_0, ne_3_0, ne_4_0, ne_5_0, ne_6_0, ne_m1_0, ne_m2_0, b01_01, b01_n, lt_m2, lt_m1, le_m2, le_m1, Classical.not_not, Bool.or_false, Bool.false_or, Bool.true_or, Bool.or_true, j_CP_bather_0, b_CP_bather_0, j_CP_bather_10, b_CP_bather_10, j_CP_bather_52, b_CP_bather_52, j_CP_bather_65, b_CP_bather_65, j_CP_bather_78, b_CP_bather_78, j_CP_bather_90, b_CP_bather_90, j_CP_bather_102, b_CP_bather_102, j_CP_bather_112, b_CP_bather_112, j_CP_bather_122, b_CP_bather_122, j_CP_bather_141, b_CP_bather_141, an_0, an_1, cl_1, ne_0_1, ne_0_m1, ne_1_0, ne_1_m1, ne_m1_0, ne_m1_1, pp_0_7, pp_15_0, pp_15_4, pp_15_5, sh_0, sh_15, sh_26, sh_27, vi_1]
    refine mid_i ?_
    refine c_Mod_bather (iv_n6 b0) (iv_n b0) (iv_64 b0) (iv_st b0) (b := 0) (fun e => absurd e (iv_noB b0 hb)) ?_ ?_
    · intro k e
      exact absurd e (iv_noB b0 hb)
    · intro _
      exact fin_i rfl (iv_rn h0 n14)
theorem lp_CP_pairsIn {c : Nat} {K : Nat → Nat} (ht : tk t) (hn6 : n ≤ 6) (hn : I t 4 = nI n) (hc : cp_sh SH c = (0, 6)) (hK : ∀ b, b < n → I c b = nI (K b) ∧ K b < 64) : ∀ (m k z : Nat) (L : cp_Lo), k + m = n → z + 6 * m < 1000 → L 0 = some (.ref 0) → L 1 = some (.ref c) → L 2 = some (.int (nI z)) → L 3 = some (.int (nI k)) →
    Q (some (.int (nI (fo (sp_prs K) m k z / 2)))) SH I J (PP t u r x) → RW g false (d + 2) 0 0 m_CP_pairsIn 0 0 4 L [] SH I J (PP t u r x) Q := by
  intro m
  induction m with
  | zero =>
    intro k z L hk hz h0 h1 h2 h3 hq
    have c : nI n ≤ nI k := nI_le (by omega) (by omega)
    have e : nI z / 2 = nI (z / 2) := pk_div (d := 2) (by omega) (by omega) (by omega)
    refine cp_run 60 (fun t => t == 4) ck_CP_pairsIn ?_
    simp only [cp_vc, cp_vs, cp_jm, cp_ent_en, cp_en_int, cp_en_ref, cp_en_ret, cp_en_long, cp_en_nil, cp_s1_at, cp_s2_at, cp_nl_int, cp_nl_ref, cp_nl_long, cp_nl_none, cp_pop_0, cp_pop_s, reduceIte, if_true, if_false, Bool.false_eq_true, Bool.true_eq_false, false_implies, implies_true, forall_const, true_implies, true_and, and_true, and_self, true_or, or_true, false_or, or_false, Value.category, List.length_cons, List.length_nil, Option.toList_some, Option.toList_none, List.cons_append, List.nil_append, List.append_nil, Prod.mk.injEq, Nat.add_zero, Nat.zero_add, Nat.reduceAdd, Nat.reduceSub, Nat.reduceEqDiff, Nat.reduceLeDiff, Nat.reduceLT, Nat.le_refl, beq_self_eq_true, Nat.reduceBEq, ne_eq, not_true_eq_false, not_false_eq_true, Int32.reduceAdd, Int32.reduceSub, Int32.reduceMul, Int32.reduceLE, Int32.reduceLT, Int32.reduceToNatClampNeg, b01_0, b01_1, ne_2_0, ne_3_0, ne_4_0, ne_5_0, ne_6_0, ne_m1_0, ne_m2_0, b01_01, b01_n, lt_m2, lt_m1, le_m2, le_m1, Classical.not_not, j_CP_pairsIn_0, b_CP_pairsIn_0, j_CP_pairsIn_4, b_CP_pairsIn_4, j_CP_pairsIn_33, b_CP_pairsIn_33, an_0, an_1, an_2, cl_0, cl_2, ne_0_1, ne_0_2, ne_1_0, ne_1_2, ne_2_0, ne_2_1, pp_0_7, pp_15_0, sh_0, sh_15, vi_0, vi_2, h0, h1, h2, h3, hn, c, e, pp_15_0, sT0 ht, sT1 ht, sT2 ht, sT3 ht, sT4 ht, sT5 ht, sT6 ht, sT7 ht, sT8 ht, sT9 ht, pT1 ht, pT2 ht, pT3 ht, pT4 ht, pT5 ht, pT6 ht, pT7 ht, pT8 ht, pT9 ht]
    exact hq
  | succ m ih =>
    intro k z L hk hz h0 h1 h2 h3 hq
    have c : ¬ nI n ≤ nI k := nI_ge (by omega) (by omega)
    obtain ⟨k1, k2⟩ := hK k (by omega)
    have l := card_le k2
    rw [fo] at hq
    refine cp_run 60 (fun t => t == 4) ck_CP_pairsIn ?_
    simp only [cp_vc, cp_vs, cp_jm, cp_ent_en, cp_en_int, cp_en_ref, cp_en_ret, cp_en_long, cp_en_nil, cp_s1_at, cp_s2_at, cp_nl_int, cp_nl_ref, cp_nl_long, cp_nl_none, cp_pop_0, cp_pop_s, reduceIte, if_true, if_false, Bool.false_eq_true, Bool.true_eq_false, false_implies, implies_true, forall_const, true_implies, true_and, and_true, and_self, true_or, or_true, false_or, or_false, Value.category, List.length_cons, List.length_nil, Option.toList_some, Option.toList_none, List.cons_append, List.nil_append, List.append_nil, Prod.mk.injEq, Nat.add_zero, Nat.zero_add, Nat.reduceAdd, Nat.reduceSub, Nat.reduceEqDiff, Nat.reduceLeDiff, Nat.reduceLT, Nat.le_refl, beq_self_eq_true, Nat.reduceBEq, ne_eq, not_true_eq_false, not_false_eq_true, Int32.reduceAdd, Int32.reduceSub, Int32.reduceMul, Int32.reduceLE, Int32.reduceLT, Int32.reduceToNatClampNeg, b01_0, b01_1, ne_2_0, ne_3_0, ne_4_0, ne_5_0, ne_6_0, ne_m1_0, ne_m2_0, b01_01, b01_n, lt_m2, lt_m1, le_m2, le_m1, Classical.not_not, j_CP_pairsIn_0, b_CP_pairsIn_0, j_CP_pairsIn_4, b_CP_pairsIn_4, j_CP_pairsIn_33, b_CP_pairsIn_33, an_0, an_1, an_2, cl_0, cl_2, ne_0_1, ne_0_2, ne_1_0, ne_1_2, ne_2_0, ne_2_1, pp_0_7, pp_15_0, sh_0, sh_15, vi_0, vi_2, h0, h1, h2, h3, hn, c, pp_15_0, sT0 ht, sT1 ht, sT2 ht, sT3 ht, sT4 ht, sT5 ht, sT6 ht, sT7 ht, sT8 ht, sT9 ht, pT1 ht, pT2 ht, pT3 ht, pT4 ht, pT5 ht, pT6 ht, pT7 ht, pT8 ht, pT9 ht, hc, vin (show k < 6 by omega) (by omega), ncl (show k < 1000 by omega), k1]
    refine c_bitCount6 k2 ?_
    simp only [cp_kk, cp_vc, cp_vs, cp_jm, cp_ent_en, cp_en_int, cp_en_ref, cp_en_ret, cp_en_long, cp_en_nil, cp_s1_at, cp_s2_at, cp_nl_int, cp_nl_ref, cp_nl_long, cp_nl_none, cp_pop_0, cp_pop_s, reduceIte, if_true, if_false, Bool.false_eq_true, Bool.true_eq_false, false_implies, implies_true, forall_const, true_implies, true_and, and_true, and_self, true_or, or_true, false_or, or_false, Value.category, List.length_cons, List.length_nil, Option.toList_some, Option.toList_none, List.cons_append, List.nil_append, List.append_nil, Prod.mk.injEq, Nat.add_zero, Nat.zero_add, Nat.reduceAdd, Nat.reduceSub, Nat.reduceEqDiff, Nat.reduceLeDiff, Nat.reduceLT, Nat.le_refl, beq_self_eq_true, Nat.reduceBEq, ne_eq, not_true_eq_false, not_false_eq_true, Int32.reduceAdd, Int32.reduceSub, Int32.reduceMul, Int32.reduceLE, Int32.reduceLT, Int32.reduceToNatClampNeg, b01_0, b01_1, ne_2_0, ne_3_0, ne_4_0, ne_5_0, ne_6_0, ne_m1_0, ne_m2_0, b01_01, b01_n, lt_m2, lt_m1, le_m2, le_m1, Classical.not_not, Bool.or_false, Bool.false_or, Bool.true_or, Bool.or_true, j_CP_pairsIn_0, b_CP_pairsIn_0, j_CP_pairsIn_4, b_CP_pairsIn_4, j_CP_pairsIn_33, b_CP_pairsIn_33, an_0, an_1, an_2, cl_0, cl_2, ne_0_1, ne_0_2, ne_1_0, ne_1_2, ne_2_0, ne_2_1, pp_0_7, pp_15_0, sh_0, sh_15, vi_0, vi_2, h0, h1, h2, h3, nI_1, nI_add]
    refine ih (k + 1) _ _ (by omega) ?_ ?_ ?_ ?_ ?_ hq
    · unfold sp_prs
      omega
    all_goals simp [cp_s1_at, cp_nl_int, cp_nl_ref, h0, h1, sp_prs]
theorem c_CP_pairsIn {c : Nat} {K : Nat → Nat} (ht : tk t) (hn6 : n ≤ 6) (hn : I t 4 = nI n) (hc : cp_sh SH c = (0, 6)) (hK : ∀ b, b < n → I c b = nI (K b) ∧ K b < 64) (h : Q (some (.int (nI (fo (sp_prs K) n 0 0 / 2)))) SH I J (PP t u r x)) : MW g false (d + 2) 0 0 m_CP_pairsIn [.ref 0, .ref c] SH I J (PP t u r x) Q := by
  refine MW.of ok_CP_pairsIn (Nat.le_of_ble_eq_true rfl) ?_
  refine cp_run 20 (fun t => t == 4) ck_CP_pairsIn ?_
  simp only [cp_vc, cp_vs, cp_jm, cp_ent_en, cp_en_int, cp_en_ref, cp_en_ret, cp_en_long, cp_en_nil, cp_s1_at, cp_s2_at, cp_nl_int, cp_nl_ref, cp_nl_long, cp_nl_none, cp_pop_0, cp_pop_s, reduceIte, if_true, if_false, Bool.false_eq_true, Bool.true_eq_false, false_implies, implies_true, forall_const, true_implies, true_and, and_true, and_self, true_or, or_true, false_or, or_false, Value.category, List.length_cons, List.length_nil, Option.toList_some, Option.toList_none, List.cons_append, List.nil_append, List.append_nil, Prod.mk.injEq, Nat.add_zero, Nat.zero_add, Nat.reduceAdd, Nat.reduceSub, Nat.reduceEqDiff, Nat.reduceLeDiff, Nat.reduceLT, Nat.le_refl, beq_self_eq_true, Nat.reduceBEq, ne_eq, not_true_eq_false, not_false_eq_true, Int32.reduceAdd, Int32.reduceSub, Int32.reduceMul, Int32.reduceLE, Int32.reduceLT, Int32.reduceToNatClampNeg, b01_0, b01_1, ne_2_0, ne_3_0, ne_4_0, ne_5_0, ne_6_0, ne_m1_0, ne_m2_0, b01_01, b01_n, lt_m2, lt_m1, le_m2, le_m1, Classical.not_not, j_CP_pairsIn_0, b_CP_pairsIn_0, j_CP_pairsIn_4, b_CP_pairsIn_4, j_CP_pairsIn_33, b_CP_pairsIn_33, an_0, an_1, an_2, cl_0, cl_2, ne_0_1, ne_0_2, ne_1_0, ne_1_2, ne_2_0, ne_2_1, pp_0_7, pp_15_0, sh_0, sh_15, vi_0, vi_2]
  refine lp_CP_pairsIn ht hn6 hn hc hK n 0 0 _ (by omega) (by omega) ?_ ?_ ?_ ?_ h <;> simp [cp_s1_at, cp_ent_en, cp_en_int, cp_en_ref, cp_nl_int, cp_nl_ref, nI_0]
theorem sum6 {q : Nat → Nat → Bool} : fo (fun a z => z + fo (fun b z => if q a b = true then z + 1 else z) 6 0 0) 6 0 0 = sp_cnt (fun j => q (j / 6) (j % 6)) 36 0 0 := by
  have row : ∀ a z, a < 6 → z + fo (fun b z => if q a b = true then z + 1 else z) 6 0 0 = sp_cnt (fun j => q (j / 6) (j % 6)) 6 (6 * a) z := fun a z ha => by
    have e : ∀ (m k z : Nat), k + m = 6 → fo (fun b z => if q a b = true then z + 1 else z) m k z = sp_cnt (fun j => q (j / 6) (j % 6)) m (6 * a + k) z := by
      intro m
      induction m with
      | zero => intro k z _; rfl
      | succ m ih =>
        intro k z hk
        show fo (fun b z => if q a b = true then z + 1 else z) m (k + 1) (if q a k = true then z + 1 else z) = sp_cnt (fun j => q (j / 6) (j % 6)) m (6 * a + k + 1) (if q ((6 * a + k) / 6) ((6 * a + k) % 6) = true then z + 1 else z)
        rw [ih (k + 1) _ (by omega), show (6 * a + k) / 6 = a by omega, show (6 * a + k) % 6 = k by omega]
        rfl
    rw [e 6 0 0 (by omega), Nat.add_zero]
    have := cnt_add (p := fun j => q (j / 6) (j % 6)) 6 (6 * a) 0 z
    rw [Nat.zero_add] at this
    rw [this, Nat.add_comm]
  have app : ∀ (m m' k z : Nat), sp_cnt (fun j => q (j / 6) (j % 6)) (m + m') k z = sp_cnt (fun j => q (j / 6) (j % 6)) m' (k + m) (sp_cnt (fun j => q (j / 6) (j % 6)) m k z) := by
    intro m
    induction m with
    | zero => intro m' k z; rw [Nat.zero_add, Nat.add_zero]; rfl
    | succ m ih =>
      intro m' k z
      rw [show m + 1 + m' = (m + m') + 1 by omega]
      show sp_cnt (fun j => q (j / 6) (j % 6)) (m + m') (k + 1) (if q (k / 6) (k % 6) = true then z + 1 else z) = sp_cnt (fun j => q (j / 6) (j % 6)) m' (k + (m + 1)) (sp_cnt (fun j => q (j / 6) (j % 6)) m (k + 1) (if q (k / 6) (k % 6) = true then z + 1 else z))
      rw [ih m' (k + 1) _, show k + 1 + m = k + (m + 1) by omega]
  have outer : ∀ (m k z : Nat), k + m = 6 → fo (fun a z => z + fo (fun b z => if q a b = true then z + 1 else z) 6 0 0) m k z = sp_cnt (fun j => q (j / 6) (j % 6)) (6 * m) (6 * k) z := by
    intro m
    induction m with
    | zero => intro k z _; rfl
    | succ m ih =>
      intro k z hk
      show fo (fun a z => z + fo (fun b z => if q a b = true then z + 1 else z) 6 0 0) m (k + 1) (z + fo (fun b z => if q k b = true then z + 1 else z) 6 0 0) = _
      rw [ih (k + 1) _ (by omega), row k z (by omega), show 6 * (m + 1) = 6 + 6 * m by omega, app 6 (6 * m) (6 * k) z, show 6 * (k + 1) = 6 * k + 6 by omega]
  exact outer 6 0 0 (by omega)
theorem iv_foes {s m : Nat} (h : ivB I t n s m) : nI (fo (sp_prs (rf I n)) n 0 0 / 2) = I 47 6 := by
  have h6 := iv_n6 h
  obtain ⟨f, f1, f2⟩ := (iv_tw h).2.2.2.2
  have neg : ∀ a b, a < 6 → b < 6 → (decide (rt I 49 a b < 0) = decide (I 47 (22 + (6 * a + b)) < 0)) := fun a b ha hb => by
    rw [iv_rt h ha hb]
    unfold ctm
    rw [(iv_fr4 h).2.2.1 a b ha hb, show 22 + 6 * a + b = 22 + (6 * a + b) by omega]
    by_cases e : I 47 (22 + (6 * a + b)) = 0 ∧ m.testBit (pbk a b) = true
    · rw [if_pos e, e.1]
      decide +kernel
    · rw [if_neg e]
  have out : ∀ a b, a < 6 → b < 6 → ¬ (a < n ∧ b < n) → decide (I 47 (22 + (6 * a + b)) < 0) = false := fun a b ha hb hab => by
    have q := (iv_tw h).2.1 a b ha hb
    have hbp : bp (I 47) a b = false := by
      cases e : bp (I 47) a b with
      | false => rfl
      | true => exact absurd (q.2.2.2.1 e) hab
    rw [show 22 + (6 * a + b) = 22 + 6 * a + b by omega, q.2.2.2.2.1 hbp]
    decide +kernel
  have ec : ∀ a, a < 6 → (if a < n then card (rf I n a) else 0) = fo (fun b z => if decide (I 47 (22 + (6 * a + b)) < 0) = true then z + 1 else z) 6 0 0 := fun a ha => by
    have e1 : fo (fun b z => if decide (I 47 (22 + (6 * a + b)) < 0) = true then z + 1 else z) 6 0 0 = card (sp_set 6 (fun b => decide (I 47 (22 + (6 * a + b)) < 0))) := by
      unfold card
      refine fo_congr 6 0 0 (fun b _ hb z => ?_)
      rw [sp_set_bit, decide_eq_true (show b < 6 by omega), Bool.true_and]
    rw [e1]
    have e2 : sp_set 6 (fun b => decide (I 47 (22 + (6 * a + b)) < 0)) = if a < n then rf I n a else 0 := by
      apply Nat.eq_of_testBit_eq
      intro i
      rw [sp_set_bit]
      by_cases hi : i < 6
      · rw [decide_eq_true hi, Bool.true_and]
        by_cases han : a < n
        · rw [if_pos han]
          unfold rf
          rw [sp_set_bit]
          by_cases hin : i < n
          · rw [decide_eq_true hin, Bool.true_and, neg a i ha hi]
          · rw [decide_eq_false hin, Bool.false_and, out a i ha hi (by omega)]
        · rw [if_neg han, Nat.zero_testBit, out a i ha hi (by omega)]
      · rw [decide_eq_false hi, Bool.false_and]
        by_cases han : a < n
        · rw [if_pos han]
          unfold rf
          rw [sp_set_bit, decide_eq_false (show ¬ i < n by omega), Bool.false_and]
        · rw [if_neg han, Nat.zero_testBit]
    rw [e2]
    by_cases han : a < n
    · rw [if_pos han, if_pos han]
    · rw [if_neg han, if_neg han]
      decide
  have tot : fo (sp_prs (rf I n)) n 0 0 = fo (fun a z => z + (if a < n then card (rf I n a) else 0)) 6 0 0 := by
    have st : ∀ (m k z : Nat), k + m = n → fo (sp_prs (rf I n)) m k z = fo (fun a z => z + (if a < n then card (rf I n a) else 0)) m k z := fun m k z hk => fo_congr m k z (fun a _ ha z => by
      unfold sp_prs
      rw [if_pos (show a < n by omega)])
    have tail : ∀ (m k z : Nat), n ≤ k → fo (fun a z => z + (if a < n then card (rf I n a) else 0)) m k z = z := by
      intro m
      induction m with
      | zero => intro k z _; rfl
      | succ m ih =>
        intro k z hk
        show fo (fun a z => z + (if a < n then card (rf I n a) else 0)) m (k + 1) (z + (if k < n then card (rf I n k) else 0)) = z
        rw [if_neg (by omega), Nat.add_zero]
        exact ih (k + 1) z (by omega)
    have app : ∀ (f : Nat → Nat → Nat) (m m' k z : Nat), fo f (m + m') k z = fo f m' (k + m) (fo f m k z) := by
      intro f m
      induction m with
      | zero => intro m' k z; rw [Nat.zero_add, Nat.add_zero]; rfl
      | succ m ih =>
        intro m' k z
        rw [show m + 1 + m' = (m + m') + 1 by omega]
        show fo f (m + m') (k + 1) (f k z) = fo f m' (k + (m + 1)) (fo f m (k + 1) (f k z))
        rw [ih m' (k + 1), show k + 1 + m = k + (m + 1) by omega]
    rw [st n 0 0 (by omega)]
    have e := app (fun a z => z + (if a < n then card (rf I n a) else 0)) n (6 - n) 0 0
    rw [show n + (6 - n) = 6 by omega, Nat.zero_add, tail (6 - n) n _ (Nat.le_refl _)] at e
    exact e.symm
  rw [tot, fo_congr 6 0 0 (h := fun a z => z + fo (fun b z => if decide (I 47 (22 + (6 * a + b)) < 0) = true then z + 1 else z) 6 0 0) (fun a _ ha z => by rw [ec a (by omega)]), sum6 (q := fun a b => decide (I 47 (22 + (6 * a + b)) < 0))]
  have e36 : sp_cnt (fun j => decide (I 47 (22 + (6 * (j / 6) + j % 6)) < 0)) 36 0 0 = sp_cnt (fun j => decide (I 47 (22 + j) < 0)) 36 0 0 := cnt_cong 36 0 0 (fun j _ hj => by rw [show 6 * (j / 6) + j % 6 = j by omega])
  rw [e36, f2, f1, show 2 * f / 2 = f by omega]
def szA (I : cp_I) (n : Nat) (w : Int32) : Int32 := if w = 13 then I 44 2 else if I 44 14 = 0 then (if w < 0 then -1 else if 12 < w then -1 else 0) else if w = 5 then nI (fo (sp_prs (rk I n 49)) n 0 0 / 2) else if w < 0 ∨ 8 < w then (if w = 9 then I 49 37 else if w = 10 then I 49 38 else if w = 11 then I 44 20 else if w = 12 then I 44 21 else -1) else I 47 w.toNatClampNeg
theorem c_Mod_sz {w : Int32} (hn6 : n ≤ 6) (hn : I 47 4 = nI n) (h : Q (some (.int (szA I n w))) SH (cp_u I 44 0 0) J (PP t u r x)) : MW g false (d + 4) 0 0 m_Mod_size [.ref 44, .int w] SH I J (PP t u r x) Q := by
  unfold szA at h
  refine c_Mod_size hn6 hn ?_ ?_ ?_ ?_ ?_
  · intro e
    rw [if_pos e] at h
    exact h
  · intro e e0
    rw [if_neg e, if_pos e0] at h
    exact h
  · intro e0 e
    rw [if_neg (by rw [e]; decide +kernel), if_neg e0, if_pos e] at h
    exact h
  · intro k e0 e5 e hk
    subst e
    have c13 : ¬ nI k = 13 := fun q => by
      have := (nI_eq (a := k) (b := 13) (by omega) (by omega)).1 q
      omega
    have c8 : ¬ (nI k < 0 ∨ 8 < nI k) := by
      rintro (q | q)
      · exact nI_pos (by omega) q
      · exact nI_nlt (a := 8) (show k ≤ 8 by omega) (by omega) q
    rw [if_neg c13, if_neg e0, if_neg e5, if_neg c8, ncl (by omega)] at h
    exact h
  · intro e0 e13 e8
    have c5 : ¬ w = 5 := by
      rintro rfl
      rcases e8 with q | q
      · exact absurd q (by decide +kernel)
      · exact absurd q (by decide +kernel)
    rw [if_neg e13, if_neg e0, if_neg c5, if_pos e8] at h
    exact h
theorem pr_size {w : Int32} (h : Iv I t u) : PR g d m_CP_size m_Mod_size [.int w] I J t u r x := by
  obtain ⟨⟨n, s, m, h0⟩, -, -⟩ := id h
  have hB := h0.1
  have h6 := iv_n6 hB
  have ht := iv_tk hB
  obtain ⟨p, q, qi, -, -, -, -, q7, q20, q8, q21, -, -⟩ := h0.2.1
  obtain ⟨τ, T, -, t2, t1, -⟩ := h0.2.2.1
  have hZ := h0.2.2.2.1
  have hd := iv_hd hB
  have e := iv_same h (kp_00 kp_r 0) (M := cp_u I 44 0 0) (by simp [cp_u_at]) (by simp [cp_u_at])
  have fin : ∀ v : Int32, v = szA I n w → QA g d m_Mod_size [.int w] (some (.int v)) SH I J (PP t u r x) := fun v hv => by
    refine mid_i ?_
    refine c_Mod_sz (iv_n6 hB) (iv_n hB) ?_
    exact fin_i hv.symm e
  have val : ∀ (k : Nat) (v : Int32), k < 9 → w = nI k → ¬ k = 5 → v = I 47 k → v = szA I n w := fun k v hk hw h5 hv => by
    subst hw
    have c13 : ¬ nI k = 13 := fun q => by
      have := (nI_eq (a := k) (b := 13) (by omega) (by omega)).1 q
      omega
    have c5 : ¬ nI k = 5 := fun q => h5 ((nI_eq (a := k) (b := 5) (by omega) (by omega)).1 q)
    have c0 : ¬ nI k < 0 := nI_pos (by omega)
    have c8 : ¬ (nI k < 0 ∨ 8 < nI k) := by
      rintro (q | q)
      · exact c0 q
      · exact nI_nlt (a := 8) (show k ≤ 8 by omega) (by omega) q
    unfold szA
    rw [if_neg c13]
    by_cases hn : n = 0
    · rw [if_pos (iv_p0 hB hn), if_neg c0, if_neg (show ¬ (12 : Int32) < nI k from nI_nlt (a := 12) (show k ≤ 12 by omega) (by omega)), hv]
      exact (hZ hn).2.1 k (by omega)
    · rw [if_neg (iv_p1 hB (by omega)), if_neg c5, if_neg c8, ncl (by omega)]
      exact hv
  have val2 : ∀ (k : Nat) (v : Int32), 9 ≤ k → k < 13 → w = nI k → (n = 0 → v = 0) → v = (if k = 9 then I 49 37 else if k = 10 then I 49 38 else if k = 11 then I 44 20 else I 44 21) → v = szA I n w := fun k v hk hk2 hw hv0 hv => by
    subst hw
    have c0 : ¬ nI k < 0 := nI_pos (by omega)
    unfold szA
    obtain rfl | rfl | rfl | rfl : k = 9 ∨ k = 10 ∨ k = 11 ∨ k = 12 := by omega
    all_goals
      rw [if_neg (by decide +kernel)]
      by_cases hn : n = 0
      · rw [if_pos (iv_p0 hB hn), if_neg (by decide +kernel), if_neg (by decide +kernel)]
        exact hv0 hn
      · rw [if_neg (iv_p1 hB (by omega)), if_neg (by decide +kernel), if_pos (by decide +kernel), hv]
        rfl
  unfold PR
  refine MW.of ok_CP_size (Nat.le_of_ble_eq_true rfl) ?_
  by_cases hw : ∃ k : Nat, k < 14 ∧ w = nI k
  · obtain ⟨k, hk, hwk⟩ := hw
    rcases (show k = 0 ∨ k = 1 ∨ k = 2 ∨ k = 3 ∨ k = 4 ∨ k = 5 ∨ k = 6 ∨ k = 7 ∨ k = 8 ∨ k = 9 ∨ k = 10 ∨ k = 11 ∨ k = 12 ∨ k = 13 by omega) with rfl | rfl | rfl | rfl | rfl | rfl | rfl | rfl | rfl | rfl | rfl | rfl | rfl | rfl
    · have v := val 0
      have v2 := val2 0
      rw [show nI 0 = (0 : Int32) from rfl] at hwk v v2
      subst hwk
      refine cp_run 60 (fun _ => false) ck_CP_size ?_
      simp only [cp_vc, cp_vs, cp_jm, cp_ent_en, cp_en_int, cp_en_ref, cp_en_ret, cp_en_long, cp_en_nil, cp_s1_at, cp_s2_at, cp_nl_int, cp_nl_ref, cp_nl_long, cp_nl_none, cp_pop_0, cp_pop_s, reduceIte, if_true, if_false, Bool.false_eq_true, Bool.true_eq_false, false_implies, implies_true, forall_const, true_implies, true_and, and_true, and_self, true_or, or_true, false_or, or_false, Value.category, List.length_cons, List.length_nil, Option.toList_some, Option.toList_none, List.cons_append, List.nil_append, List.append_nil, Prod.mk.injEq, Nat.add_zero, Nat.zero_add, Nat.reduceAdd, Nat.reduceSub, Nat.reduceEqDiff, Nat.reduceLeDiff, Nat.reduceLT, Nat.le_refl, beq_self_eq_true, Nat.reduceBEq, ne_eq, not_true_eq_false, not_false_eq_true, Int32.reduceAdd, Int32.reduceSub, Int32.reduceMul, Int32.reduceLE, Int32.reduceLT, Int32.reduceToNatClampNeg, b01_0, b01_1, ne_2_0, ne_3_0, ne_4_0, ne_5_0, ne_6_0, ne_m1_0, ne_m2_0, b01_01, b01_n, lt_m2, lt_m1, le_m2, le_m1, Classical.not_not, j_CP_size_0, b_CP_size_0, j_CP_size_72, b_CP_size_72, j_CP_size_83, b_CP_size_83, j_CP_size_94, b_CP_size_94, j_CP_size_105, b_CP_size_105, j_CP_size_116, b_CP_size_116, j_CP_size_127, b_CP_size_127, j_CP_size_139, b_CP_size_139, j_CP_size_151, b_CP_size_151, j_CP_size_162, b_CP_size_162, j_CP_size_173, b_CP_size_173, j_CP_size_184, b_CP_size_184, j_CP_size_192, b_CP_size_192, j_CP_size_200, b_CP_size_200, j_CP_size_208, b_CP_size_208, j_CP_size_213, b_CP_size_213, an_0, an_1, ne_0_1, ne_0_m1, ne_1_0, ne_1_m1, ne_m1_0, ne_m1_1, pp_0_7, pp_0_8, pp_15_0, pp_15_4, pp_15_5, sh_0, sh_15, sh_26, sh_27, sh_30, cp_sw, ti_0, Int.reduceLT, Int.reduceEq, Int.reduceAdd, or_self, false_implies, pp_15_0, sT0 ht, sT1 ht, sT2 ht, sT3 ht, sT4 ht, sT5 ht, sT6 ht, sT7 ht, sT8 ht, sT9 ht, pT1 ht, pT2 ht, pT3 ht, pT4 ht, pT5 ht, pT6 ht, pT7 ht, pT8 ht, pT9 ht]
      exact fin _ (v _ (by omega) rfl (by omega) hd.1)
    · have v := val 1
      have v2 := val2 1
      rw [show nI 1 = (1 : Int32) from rfl] at hwk v v2
      subst hwk
      refine cp_run 60 (fun _ => false) ck_CP_size ?_
      simp only [cp_vc, cp_vs, cp_jm, cp_ent_en, cp_en_int, cp_en_ref, cp_en_ret, cp_en_long, cp_en_nil, cp_s1_at, cp_s2_at, cp_nl_int, cp_nl_ref, cp_nl_long, cp_nl_none, cp_pop_0, cp_pop_s, reduceIte, if_true, if_false, Bool.false_eq_true, Bool.true_eq_false, false_implies, implies_true, forall_const, true_implies, true_and, and_true, and_self, true_or, or_true, false_or, or_false, Value.category, List.length_cons, List.length_nil, Option.toList_some, Option.toList_none, List.cons_append, List.nil_append, List.append_nil, Prod.mk.injEq, Nat.add_zero, Nat.zero_add, Nat.reduceAdd, Nat.reduceSub, Nat.reduceEqDiff, Nat.reduceLeDiff, Nat.reduceLT, Nat.le_refl, beq_self_eq_true, Nat.reduceBEq, ne_eq, not_true_eq_false, not_false_eq_true, Int32.reduceAdd, Int32.reduceSub, Int32.reduceMul, Int32.reduceLE, Int32.reduceLT, Int32.reduceToNatClampNeg, b01_0, b01_1, ne_2_0, ne_3_0, ne_4_0, ne_5_0, ne_6_0, ne_m1_0, ne_m2_0, b01_01, b01_n, lt_m2, lt_m1, le_m2, le_m1, Classical.not_not, j_CP_size_0, b_CP_size_0, j_CP_size_72, b_CP_size_72, j_CP_size_83, b_CP_size_83, j_CP_size_94, b_CP_size_94, j_CP_size_105, b_CP_size_105, j_CP_size_116, b_CP_size_116, j_CP_size_127, b_CP_size_127, j_CP_size_139, b_CP_size_139, j_CP_size_151, b_CP_size_151, j_CP_size_162, b_CP_size_162, j_CP_size_173, b_CP_size_173, j_CP_size_184, b_CP_size_184, j_CP_size_192, b_CP_size_192, j_CP_size_200, b_CP_size_200, j_CP_size_208, b_CP_size_208, j_CP_size_213, b_CP_size_213, an_0, an_1, ne_0_1, ne_0_m1, ne_1_0, ne_1_m1, ne_m1_0, ne_m1_1, pp_0_7, pp_0_8, pp_15_0, pp_15_4, pp_15_5, sh_0, sh_15, sh_26, sh_27, sh_30, cp_sw, ti_1, Int.reduceLT, Int.reduceEq, Int.reduceAdd, or_self, false_implies, pp_15_0, sT0 ht, sT1 ht, sT2 ht, sT3 ht, sT4 ht, sT5 ht, sT6 ht, sT7 ht, sT8 ht, sT9 ht, pT1 ht, pT2 ht, pT3 ht, pT4 ht, pT5 ht, pT6 ht, pT7 ht, pT8 ht, pT9 ht]
      exact fin _ (v _ (by omega) rfl (by omega) hd.2.1)
    · have v := val 2
      have v2 := val2 2
      rw [show nI 2 = (2 : Int32) from rfl] at hwk v v2
      subst hwk
      refine cp_run 60 (fun _ => false) ck_CP_size ?_
      simp only [cp_vc, cp_vs, cp_jm, cp_ent_en, cp_en_int, cp_en_ref, cp_en_ret, cp_en_long, cp_en_nil, cp_s1_at, cp_s2_at, cp_nl_int, cp_nl_ref, cp_nl_long, cp_nl_none, cp_pop_0, cp_pop_s, reduceIte, if_true, if_false, Bool.false_eq_true, Bool.true_eq_false, false_implies, implies_true, forall_const, true_implies, true_and, and_true, and_self, true_or, or_true, false_or, or_false, Value.category, List.length_cons, List.length_nil, Option.toList_some, Option.toList_none, List.cons_append, List.nil_append, List.append_nil, Prod.mk.injEq, Nat.add_zero, Nat.zero_add, Nat.reduceAdd, Nat.reduceSub, Nat.reduceEqDiff, Nat.reduceLeDiff, Nat.reduceLT, Nat.le_refl, beq_self_eq_true, Nat.reduceBEq, ne_eq, not_true_eq_false, not_false_eq_true, Int32.reduceAdd, Int32.reduceSub, Int32.reduceMul, Int32.reduceLE, Int32.reduceLT, Int32.reduceToNatClampNeg, b01_0, b01_1, ne_2_0, ne_3_0, ne_4_0, ne_5_0, ne_6_0, ne_m1_0, ne_m2_0, b01_01, b01_n, lt_m2, lt_m1, le_m2, le_m1, Classical.not_not, j_CP_size_0, b_CP_size_0, j_CP_size_72, b_CP_size_72, j_CP_size_83, b_CP_size_83, j_CP_size_94, b_CP_size_94, j_CP_size_105, b_CP_size_105, j_CP_size_116, b_CP_size_116, j_CP_size_127, b_CP_size_127, j_CP_size_139, b_CP_size_139, j_CP_size_151, b_CP_size_151, j_CP_size_162, b_CP_size_162, j_CP_size_173, b_CP_size_173, j_CP_size_184, b_CP_size_184, j_CP_size_192, b_CP_size_192, j_CP_size_200, b_CP_size_200, j_CP_size_208, b_CP_size_208, j_CP_size_213, b_CP_size_213, an_0, an_1, ne_0_1, ne_0_m1, ne_1_0, ne_1_m1, ne_m1_0, ne_m1_1, pp_0_7, pp_0_8, pp_15_0, pp_15_4, pp_15_5, sh_0, sh_15, sh_26, sh_27, sh_30, cp_sw, ti_2, Int.reduceLT, Int.reduceEq, Int.reduceAdd, or_self, false_implies, pp_15_0, sT0 ht, sT1 ht, sT2 ht, sT3 ht, sT4 ht, sT5 ht, sT6 ht, sT7 ht, sT8 ht, sT9 ht, pT1 ht, pT2 ht, pT3 ht, pT4 ht, pT5 ht, pT6 ht, pT7 ht, pT8 ht, pT9 ht]
      exact fin _ (v _ (by omega) rfl (by omega) hd.2.2.1)
    · have v := val 3
      have v2 := val2 3
      rw [show nI 3 = (3 : Int32) from rfl] at hwk v v2
      subst hwk
      refine cp_run 60 (fun _ => false) ck_CP_size ?_
      simp only [cp_vc, cp_vs, cp_jm, cp_ent_en, cp_en_int, cp_en_ref, cp_en_ret, cp_en_long, cp_en_nil, cp_s1_at, cp_s2_at, cp_nl_int, cp_nl_ref, cp_nl_long, cp_nl_none, cp_pop_0, cp_pop_s, reduceIte, if_true, if_false, Bool.false_eq_true, Bool.true_eq_false, false_implies, implies_true, forall_const, true_implies, true_and, and_true, and_self, true_or, or_true, false_or, or_false, Value.category, List.length_cons, List.length_nil, Option.toList_some, Option.toList_none, List.cons_append, List.nil_append, List.append_nil, Prod.mk.injEq, Nat.add_zero, Nat.zero_add, Nat.reduceAdd, Nat.reduceSub, Nat.reduceEqDiff, Nat.reduceLeDiff, Nat.reduceLT, Nat.le_refl, beq_self_eq_true, Nat.reduceBEq, ne_eq, not_true_eq_false, not_false_eq_true, Int32.reduceAdd, Int32.reduceSub, Int32.reduceMul, Int32.reduceLE, Int32.reduceLT, Int32.reduceToNatClampNeg, b01_0, b01_1, ne_2_0, ne_3_0, ne_4_0, ne_5_0, ne_6_0, ne_m1_0, ne_m2_0, b01_01, b01_n, lt_m2, lt_m1, le_m2, le_m1, Classical.not_not, j_CP_size_0, b_CP_size_0, j_CP_size_72, b_CP_size_72, j_CP_size_83, b_CP_size_83, j_CP_size_94, b_CP_size_94, j_CP_size_105, b_CP_size_105, j_CP_size_116, b_CP_size_116, j_CP_size_127, b_CP_size_127, j_CP_size_139, b_CP_size_139, j_CP_size_151, b_CP_size_151, j_CP_size_162, b_CP_size_162, j_CP_size_173, b_CP_size_173, j_CP_size_184, b_CP_size_184, j_CP_size_192, b_CP_size_192, j_CP_size_200, b_CP_size_200, j_CP_size_208, b_CP_size_208, j_CP_size_213, b_CP_size_213, an_0, an_1, ne_0_1, ne_0_m1, ne_1_0, ne_1_m1, ne_m1_0, ne_m1_1, pp_0_7, pp_0_8, pp_15_0, pp_15_4, pp_15_5, sh_0, sh_15, sh_26, sh_27, sh_30, cp_sw, ti_3, Int.reduceLT, Int.reduceEq, Int.reduceAdd, or_self, false_implies, pp_15_0, sT0 ht, sT1 ht, sT2 ht, sT3 ht, sT4 ht, sT5 ht, sT6 ht, sT7 ht, sT8 ht, sT9 ht, pT1 ht, pT2 ht, pT3 ht, pT4 ht, pT5 ht, pT6 ht, pT7 ht, pT8 ht, pT9 ht]
      exact fin _ (v _ (by omega) rfl (by omega) hd.2.2.2.1)
    · have v := val 4
      have v2 := val2 4
      rw [show nI 4 = (4 : Int32) from rfl] at hwk v v2
      subst hwk
      refine cp_run 60 (fun _ => false) ck_CP_size ?_
      simp only [cp_vc, cp_vs, cp_jm, cp_ent_en, cp_en_int, cp_en_ref, cp_en_ret, cp_en_long, cp_en_nil, cp_s1_at, cp_s2_at, cp_nl_int, cp_nl_ref, cp_nl_long, cp_nl_none, cp_pop_0, cp_pop_s, reduceIte, if_true, if_false, Bool.false_eq_true, Bool.true_eq_false, false_implies, implies_true, forall_const, true_implies, true_and, and_true, and_self, true_or, or_true, false_or, or_false, Value.category, List.length_cons, List.length_nil, Option.toList_some, Option.toList_none, List.cons_append, List.nil_append, List.append_nil, Prod.mk.injEq, Nat.add_zero, Nat.zero_add, Nat.reduceAdd, Nat.reduceSub, Nat.reduceEqDiff, Nat.reduceLeDiff, Nat.reduceLT, Nat.le_refl, beq_self_eq_true, Nat.reduceBEq, ne_eq, not_true_eq_false, not_false_eq_true, Int32.reduceAdd, Int32.reduceSub, Int32.reduceMul, Int32.reduceLE, Int32.reduceLT, Int32.reduceToNatClampNeg, b01_0, b01_1, ne_2_0, ne_3_0, ne_4_0, ne_5_0, ne_6_0, ne_m1_0, ne_m2_0, b01_01, b01_n, lt_m2, lt_m1, le_m2, le_m1, Classical.not_not, j_CP_size_0, b_CP_size_0, j_CP_size_72, b_CP_size_72, j_CP_size_83, b_CP_size_83, j_CP_size_94, b_CP_size_94, j_CP_size_105, b_CP_size_105, j_CP_size_116, b_CP_size_116, j_CP_size_127, b_CP_size_127, j_CP_size_139, b_CP_size_139, j_CP_size_151, b_CP_size_151, j_CP_size_162, b_CP_size_162, j_CP_size_173, b_CP_size_173, j_CP_size_184, b_CP_size_184, j_CP_size_192, b_CP_size_192, j_CP_size_200, b_CP_size_200, j_CP_size_208, b_CP_size_208, j_CP_size_213, b_CP_size_213, an_0, an_1, ne_0_1, ne_0_m1, ne_1_0, ne_1_m1, ne_m1_0, ne_m1_1, pp_0_7, pp_0_8, pp_15_0, pp_15_4, pp_15_5, sh_0, sh_15, sh_26, sh_27, sh_30, cp_sw, ti_4, Int.reduceLT, Int.reduceEq, Int.reduceAdd, or_self, false_implies, pp_15_0, sT0 ht, sT1 ht, sT2 ht, sT3 ht, sT4 ht, sT5 ht, sT6 ht, sT7 ht, sT8 ht, sT9 ht, pT1 ht, pT2 ht, pT3 ht, pT4 ht, pT5 ht, pT6 ht, pT7 ht, pT8 ht, pT9 ht]
      exact fin _ (v _ (by omega) rfl (by omega) hd.2.2.2.2.1)
    · have v := val 5
      have v2 := val2 5
      rw [show nI 5 = (5 : Int32) from rfl] at hwk v v2
      subst hwk
      refine cp_run 60 (fun _ => false) ck_CP_size ?_
      simp only [cp_vc, cp_vs, cp_jm, cp_ent_en, cp_en_int, cp_en_ref, cp_en_ret, cp_en_long, cp_en_nil, cp_s1_at, cp_s2_at, cp_nl_int, cp_nl_ref, cp_nl_long, cp_nl_none, cp_pop_0, cp_pop_s, reduceIte, if_true, if_false, Bool.false_eq_true, Bool.true_eq_false, false_implies, implies_true, forall_const, true_implies, true_and, and_true, and_self, true_or, or_true, false_or, or_false, Value.category, List.length_cons, List.length_nil, Option.toList_some, Option.toList_none, List.cons_append, List.nil_append, List.append_nil, Prod.mk.injEq, Nat.add_zero, Nat.zero_add, Nat.reduceAdd, Nat.reduceSub, Nat.reduceEqDiff, Nat.reduceLeDiff, Nat.reduceLT, Nat.le_refl, beq_self_eq_true, Nat.reduceBEq, ne_eq, not_true_eq_false, not_false_eq_true, Int32.reduceAdd, Int32.reduceSub, Int32.reduceMul, Int32.reduceLE, Int32.reduceLT, Int32.reduceToNatClampNeg, b01_0, b01_1, ne_2_0, ne_3_0, ne_4_0, ne_5_0, ne_6_0, ne_m1_0, ne_m2_0, b01_01, b01_n, lt_m2, lt_m1, le_m2, le_m1, Classical.not_not, j_CP_size_0, b_CP_size_0, j_CP_size_72, b_CP_size_72, j_CP_size_83, b_CP_size_83, j_CP_size_94, b_CP_size_94, j_CP_size_105, b_CP_size_105, j_CP_size_116, b_CP_size_116, j_CP_size_127, b_CP_size_127, j_CP_size_139, b_CP_size_139, j_CP_size_151, b_CP_size_151, j_CP_size_162, b_CP_size_162, j_CP_size_173, b_CP_size_173, j_CP_size_184, b_CP_size_184, j_CP_size_192, b_CP_size_192, j_CP_size_200, b_CP_size_200, j_CP_size_208, b_CP_size_208, j_CP_size_213, b_CP_size_213, an_0, an_1, ne_0_1, ne_0_m1, ne_1_0, ne_1_m1, ne_m1_0, ne_m1_1, pp_0_7, pp_0_8, pp_15_0, pp_15_4, pp_15_5, sh_0, sh_15, sh_26, sh_27, sh_30, cp_sw, ti_5, Int.reduceLT, Int.reduceEq, Int.reduceAdd, or_self, false_implies, pp_15_0, sT0 ht, sT1 ht, sT2 ht, sT3 ht, sT4 ht, sT5 ht, sT6 ht, sT7 ht, sT8 ht, sT9 ht, pT1 ht, pT2 ht, pT3 ht, pT4 ht, pT5 ht, pT6 ht, pT7 ht, pT8 ht, pT9 ht]
      refine c_CP_pairsIn ht h6 (iv_cn hB) sh_26 (K := rk I n 49) (fun b hb => ⟨(iv_KF hB b hb).1, (iv_KF hB b hb).2.1⟩) ?_
      simp only [cp_kk, cp_vc, cp_vs, cp_jm, cp_ent_en, cp_en_int, cp_en_ref, cp_en_ret, cp_en_long, cp_en_nil, cp_s1_at, cp_s2_at, cp_nl_int, cp_nl_ref, cp_nl_long, cp_nl_none, cp_pop_0, cp_pop_s, reduceIte, if_true, if_false, Bool.false_eq_true, Bool.true_eq_false, false_implies, implies_true, forall_const, true_implies, true_and, and_true, and_self, true_or, or_true, false_or, or_false, Value.category, List.length_cons, List.length_nil, Option.toList_some, Option.toList_none, List.cons_append, List.nil_append, List.append_nil, Prod.mk.injEq, Nat.add_zero, Nat.zero_add, Nat.reduceAdd, Nat.reduceSub, Nat.reduceEqDiff, Nat.reduceLeDiff, Nat.reduceLT, Nat.le_refl, beq_self_eq_true, Nat.reduceBEq, ne_eq, not_true_eq_false, not_false_eq_true, Int32.reduceAdd, Int32.reduceSub, Int32.reduceMul, Int32.reduceLE, Int32.reduceLT, Int32.reduceToNatClampNeg, b01_0, b01_1, ne_2_0, ne_3_0, ne_4_0, ne_5_0, ne_6_0, ne_m1_0, ne_m2_0, b01_01, b01_n, lt_m2, lt_m1, le_m2, le_m1, Classical.not_not, Bool.or_false, Bool.false_or, Bool.true_or, Bool.or_true, j_CP_size_0, b_CP_size_0, j_CP_size_72, b_CP_size_72, j_CP_size_83, b_CP_size_83, j_CP_size_94, b_CP_size_94, j_CP_size_105, b_CP_size_105, j_CP_size_116, b_CP_size_116, j_CP_size_127, b_CP_size_127, j_CP_size_139, b_CP_size_139, j_CP_size_151, b_CP_size_151, j_CP_size_162, b_CP_size_162, j_CP_size_173, b_CP_size_173, j_CP_size_184, b_CP_size_184, j_CP_size_192, b_CP_size_192, j_CP_size_200, b_CP_size_200, j_CP_size_208, b_CP_size_208, j_CP_size_213, b_CP_size_213, an_0, an_1, ne_0_1, ne_0_m1, ne_1_0, ne_1_m1, ne_m1_0, ne_m1_1, pp_0_7, pp_0_8, pp_15_0, pp_15_4, pp_15_5, sh_0, sh_15, sh_26, sh_27, sh_30]
      refine fin _ ?_
      unfold szA
      rw [if_neg (by decide +kernel)]
      by_cases hn : n = 0
      · subst hn
        rw [if_pos (iv_p0 hB rfl), if_neg (by decide +kernel), if_neg (by decide +kernel), show fo (sp_prs (rk I 0 49)) 0 0 0 / 2 = 0 by rw [fo], nI_0]
      · rw [if_neg (iv_p1 hB (by omega)), if_pos rfl]
    · have v := val 6
      have v2 := val2 6
      rw [show nI 6 = (6 : Int32) from rfl] at hwk v v2
      subst hwk
      refine cp_run 60 (fun _ => false) ck_CP_size ?_
      simp only [cp_vc, cp_vs, cp_jm, cp_ent_en, cp_en_int, cp_en_ref, cp_en_ret, cp_en_long, cp_en_nil, cp_s1_at, cp_s2_at, cp_nl_int, cp_nl_ref, cp_nl_long, cp_nl_none, cp_pop_0, cp_pop_s, reduceIte, if_true, if_false, Bool.false_eq_true, Bool.true_eq_false, false_implies, implies_true, forall_const, true_implies, true_and, and_true, and_self, true_or, or_true, false_or, or_false, Value.category, List.length_cons, List.length_nil, Option.toList_some, Option.toList_none, List.cons_append, List.nil_append, List.append_nil, Prod.mk.injEq, Nat.add_zero, Nat.zero_add, Nat.reduceAdd, Nat.reduceSub, Nat.reduceEqDiff, Nat.reduceLeDiff, Nat.reduceLT, Nat.le_refl, beq_self_eq_true, Nat.reduceBEq, ne_eq, not_true_eq_false, not_false_eq_true, Int32.reduceAdd, Int32.reduceSub, Int32.reduceMul, Int32.reduceLE, Int32.reduceLT, Int32.reduceToNatClampNeg, b01_0, b01_1, ne_2_0, ne_3_0, ne_4_0, ne_5_0, ne_6_0, ne_m1_0, ne_m2_0, b01_01, b01_n, lt_m2, lt_m1, le_m2, le_m1, Classical.not_not, j_CP_size_0, b_CP_size_0, j_CP_size_72, b_CP_size_72, j_CP_size_83, b_CP_size_83, j_CP_size_94, b_CP_size_94, j_CP_size_105, b_CP_size_105, j_CP_size_116, b_CP_size_116, j_CP_size_127, b_CP_size_127, j_CP_size_139, b_CP_size_139, j_CP_size_151, b_CP_size_151, j_CP_size_162, b_CP_size_162, j_CP_size_173, b_CP_size_173, j_CP_size_184, b_CP_size_184, j_CP_size_192, b_CP_size_192, j_CP_size_200, b_CP_size_200, j_CP_size_208, b_CP_size_208, j_CP_size_213, b_CP_size_213, an_0, an_1, ne_0_1, ne_0_m1, ne_1_0, ne_1_m1, ne_m1_0, ne_m1_1, pp_0_7, pp_0_8, pp_15_0, pp_15_4, pp_15_5, sh_0, sh_15, sh_26, sh_27, sh_30, cp_sw, ti_6, Int.reduceLT, Int.reduceEq, Int.reduceAdd, or_self, false_implies, pp_15_0, sT0 ht, sT1 ht, sT2 ht, sT3 ht, sT4 ht, sT5 ht, sT6 ht, sT7 ht, sT8 ht, sT9 ht, pT1 ht, pT2 ht, pT3 ht, pT4 ht, pT5 ht, pT6 ht, pT7 ht, pT8 ht, pT9 ht]
      refine c_CP_pairsIn ht h6 (iv_cn hB) sh_27 (K := rf I n) (fun b hb => ⟨(iv_KF hB b hb).2.2.1, (iv_KF hB b hb).2.2.2⟩) ?_
      simp only [cp_kk, cp_vc, cp_vs, cp_jm, cp_ent_en, cp_en_int, cp_en_ref, cp_en_ret, cp_en_long, cp_en_nil, cp_s1_at, cp_s2_at, cp_nl_int, cp_nl_ref, cp_nl_long, cp_nl_none, cp_pop_0, cp_pop_s, reduceIte, if_true, if_false, Bool.false_eq_true, Bool.true_eq_false, false_implies, implies_true, forall_const, true_implies, true_and, and_true, and_self, true_or, or_true, false_or, or_false, Value.category, List.length_cons, List.length_nil, Option.toList_some, Option.toList_none, List.cons_append, List.nil_append, List.append_nil, Prod.mk.injEq, Nat.add_zero, Nat.zero_add, Nat.reduceAdd, Nat.reduceSub, Nat.reduceEqDiff, Nat.reduceLeDiff, Nat.reduceLT, Nat.le_refl, beq_self_eq_true, Nat.reduceBEq, ne_eq, not_true_eq_false, not_false_eq_true, Int32.reduceAdd, Int32.reduceSub, Int32.reduceMul, Int32.reduceLE, Int32.reduceLT, Int32.reduceToNatClampNeg, b01_0, b01_1, ne_2_0, ne_3_0, ne_4_0, ne_5_0, ne_6_0, ne_m1_0, ne_m2_0, b01_01, b01_n, lt_m2, lt_m1, le_m2, le_m1, Classical.not_not, Bool.or_false, Bool.false_or, Bool.true_or, Bool.or_true, j_CP_size_0, b_CP_size_0, j_CP_size_72, b_CP_size_72, j_CP_size_83, b_CP_size_83, j_CP_size_94, b_CP_size_94, j_CP_size_105, b_CP_size_105, j_CP_size_116, b_CP_size_116, j_CP_size_127, b_CP_size_127, j_CP_size_139, b_CP_size_139, j_CP_size_151, b_CP_size_151, j_CP_size_162, b_CP_size_162, j_CP_size_173, b_CP_size_173, j_CP_size_184, b_CP_size_184, j_CP_size_192, b_CP_size_192, j_CP_size_200, b_CP_size_200, j_CP_size_208, b_CP_size_208, j_CP_size_213, b_CP_size_213, an_0, an_1, ne_0_1, ne_0_m1, ne_1_0, ne_1_m1, ne_m1_0, ne_m1_1, pp_0_7, pp_0_8, pp_15_0, pp_15_4, pp_15_5, sh_0, sh_15, sh_26, sh_27, sh_30]
      exact fin _ (v _ (by omega) rfl (by omega) (iv_foes hB))
    · have v := val 7
      have v2 := val2 7
      rw [show nI 7 = (7 : Int32) from rfl] at hwk v v2
      subst hwk
      refine cp_run 60 (fun _ => false) ck_CP_size ?_
      simp only [cp_vc, cp_vs, cp_jm, cp_ent_en, cp_en_int, cp_en_ref, cp_en_ret, cp_en_long, cp_en_nil, cp_s1_at, cp_s2_at, cp_nl_int, cp_nl_ref, cp_nl_long, cp_nl_none, cp_pop_0, cp_pop_s, reduceIte, if_true, if_false, Bool.false_eq_true, Bool.true_eq_false, false_implies, implies_true, forall_const, true_implies, true_and, and_true, and_self, true_or, or_true, false_or, or_false, Value.category, List.length_cons, List.length_nil, Option.toList_some, Option.toList_none, List.cons_append, List.nil_append, List.append_nil, Prod.mk.injEq, Nat.add_zero, Nat.zero_add, Nat.reduceAdd, Nat.reduceSub, Nat.reduceEqDiff, Nat.reduceLeDiff, Nat.reduceLT, Nat.le_refl, beq_self_eq_true, Nat.reduceBEq, ne_eq, not_true_eq_false, not_false_eq_true, Int32.reduceAdd, Int32.reduceSub, Int32.reduceMul, Int32.reduceLE, Int32.reduceLT, Int32.reduceToNatClampNeg, b01_0, b01_1, ne_2_0, ne_3_0, ne_4_0, ne_5_0, ne_6_0, ne_m1_0, ne_m2_0, b01_01, b01_n, lt_m2, lt_m1, le_m2, le_m1, Classical.not_not, j_CP_size_0, b_CP_size_0, j_CP_size_72, b_CP_size_72, j_CP_size_83, b_CP_size_83, j_CP_size_94, b_CP_size_94, j_CP_size_105, b_CP_size_105, j_CP_size_116, b_CP_size_116, j_CP_size_127, b_CP_size_127, j_CP_size_139, b_CP_size_139, j_CP_size_151, b_CP_size_151, j_CP_size_162, b_CP_size_162, j_CP_size_173, b_CP_size_173, j_CP_size_184, b_CP_size_184, j_CP_size_192, b_CP_size_192, j_CP_size_200, b_CP_size_200, j_CP_size_208, b_CP_size_208, j_CP_size_213, b_CP_size_213, an_0, an_1, ne_0_1, ne_0_m1, ne_1_0, ne_1_m1, ne_m1_0, ne_m1_1, pp_0_7, pp_0_8, pp_15_0, pp_15_4, pp_15_5, sh_0, sh_15, sh_26, sh_27, sh_30, cp_sw, ti_7, Int.reduceLT, Int.reduceEq, Int.reduceAdd, or_self, false_implies, pp_15_0, sT0 ht, sT1 ht, sT2 ht, sT3 ht, sT4 ht, sT5 ht, sT6 ht, sT7 ht, sT8 ht, sT9 ht, pT1 ht, pT2 ht, pT3 ht, pT4 ht, pT5 ht, pT6 ht, pT7 ht, pT8 ht, pT9 ht]
      exact fin _ (v _ (by omega) rfl (by omega) hd.2.2.2.2.2.1)
    · have v := val 8
      have v2 := val2 8
      rw [show nI 8 = (8 : Int32) from rfl] at hwk v v2
      subst hwk
      refine cp_run 60 (fun _ => false) ck_CP_size ?_
      simp only [cp_vc, cp_vs, cp_jm, cp_ent_en, cp_en_int, cp_en_ref, cp_en_ret, cp_en_long, cp_en_nil, cp_s1_at, cp_s2_at, cp_nl_int, cp_nl_ref, cp_nl_long, cp_nl_none, cp_pop_0, cp_pop_s, reduceIte, if_true, if_false, Bool.false_eq_true, Bool.true_eq_false, false_implies, implies_true, forall_const, true_implies, true_and, and_true, and_self, true_or, or_true, false_or, or_false, Value.category, List.length_cons, List.length_nil, Option.toList_some, Option.toList_none, List.cons_append, List.nil_append, List.append_nil, Prod.mk.injEq, Nat.add_zero, Nat.zero_add, Nat.reduceAdd, Nat.reduceSub, Nat.reduceEqDiff, Nat.reduceLeDiff, Nat.reduceLT, Nat.le_refl, beq_self_eq_true, Nat.reduceBEq, ne_eq, not_true_eq_false, not_false_eq_true, Int32.reduceAdd, Int32.reduceSub, Int32.reduceMul, Int32.reduceLE, Int32.reduceLT, Int32.reduceToNatClampNeg, b01_0, b01_1, ne_2_0, ne_3_0, ne_4_0, ne_5_0, ne_6_0, ne_m1_0, ne_m2_0, b01_01, b01_n, lt_m2, lt_m1, le_m2, le_m1, Classical.not_not, j_CP_size_0, b_CP_size_0, j_CP_size_72, b_CP_size_72, j_CP_size_83, b_CP_size_83, j_CP_size_94, b_CP_size_94, j_CP_size_105, b_CP_size_105, j_CP_size_116, b_CP_size_116, j_CP_size_127, b_CP_size_127, j_CP_size_139, b_CP_size_139, j_CP_size_151, b_CP_size_151, j_CP_size_162, b_CP_size_162, j_CP_size_173, b_CP_size_173, j_CP_size_184, b_CP_size_184, j_CP_size_192, b_CP_size_192, j_CP_size_200, b_CP_size_200, j_CP_size_208, b_CP_size_208, j_CP_size_213, b_CP_size_213, an_0, an_1, ne_0_1, ne_0_m1, ne_1_0, ne_1_m1, ne_m1_0, ne_m1_1, pp_0_7, pp_0_8, pp_15_0, pp_15_4, pp_15_5, sh_0, sh_15, sh_26, sh_27, sh_30, cp_sw, ti_8, Int.reduceLT, Int.reduceEq, Int.reduceAdd, or_self, false_implies, pp_15_0, sT0 ht, sT1 ht, sT2 ht, sT3 ht, sT4 ht, sT5 ht, sT6 ht, sT7 ht, sT8 ht, sT9 ht, pT1 ht, pT2 ht, pT3 ht, pT4 ht, pT5 ht, pT6 ht, pT7 ht, pT8 ht, pT9 ht]
      exact fin _ (v _ (by omega) rfl (by omega) hd.2.2.2.2.2.2)
    · have v := val 9
      have v2 := val2 9
      rw [show nI 9 = (9 : Int32) from rfl] at hwk v v2
      subst hwk
      refine cp_run 60 (fun _ => false) ck_CP_size ?_
      simp only [cp_vc, cp_vs, cp_jm, cp_ent_en, cp_en_int, cp_en_ref, cp_en_ret, cp_en_long, cp_en_nil, cp_s1_at, cp_s2_at, cp_nl_int, cp_nl_ref, cp_nl_long, cp_nl_none, cp_pop_0, cp_pop_s, reduceIte, if_true, if_false, Bool.false_eq_true, Bool.true_eq_false, false_implies, implies_true, forall_const, true_implies, true_and, and_true, and_self, true_or, or_true, false_or, or_false, Value.category, List.length_cons, List.length_nil, Option.toList_some, Option.toList_none, List.cons_append, List.nil_append, List.append_nil, Prod.mk.injEq, Nat.add_zero, Nat.zero_add, Nat.reduceAdd, Nat.reduceSub, Nat.reduceEqDiff, Nat.reduceLeDiff, Nat.reduceLT, Nat.le_refl, beq_self_eq_true, Nat.reduceBEq, ne_eq, not_true_eq_false, not_false_eq_true, Int32.reduceAdd, Int32.reduceSub, Int32.reduceMul, Int32.reduceLE, Int32.reduceLT, Int32.reduceToNatClampNeg, b01_0, b01_1, ne_2_0, ne_3_0, ne_4_0, ne_5_0, ne_6_0, ne_m1_0, ne_m2_0, b01_01, b01_n, lt_m2, lt_m1, le_m2, le_m1, Classical.not_not, j_CP_size_0, b_CP_size_0, j_CP_size_72, b_CP_size_72, j_CP_size_83, b_CP_size_83, j_CP_size_94, b_CP_size_94, j_CP_size_105, b_CP_size_105, j_CP_size_116, b_CP_size_116, j_CP_size_127, b_CP_size_127, j_CP_size_139, b_CP_size_139, j_CP_size_151, b_CP_size_151, j_CP_size_162, b_CP_size_162, j_CP_size_173, b_CP_size_173, j_CP_size_184, b_CP_size_184, j_CP_size_192, b_CP_size_192, j_CP_size_200, b_CP_size_200, j_CP_size_208, b_CP_size_208, j_CP_size_213, b_CP_size_213, an_0, an_1, ne_0_1, ne_0_m1, ne_1_0, ne_1_m1, ne_m1_0, ne_m1_1, pp_0_7, pp_0_8, pp_15_0, pp_15_4, pp_15_5, sh_0, sh_15, sh_26, sh_27, sh_30, cp_sw, ti_9, Int.reduceLT, Int.reduceEq, Int.reduceAdd, or_self, false_implies, pp_15_0, sT0 ht, sT1 ht, sT2 ht, sT3 ht, sT4 ht, sT5 ht, sT6 ht, sT7 ht, sT8 ht, sT9 ht, pT1 ht, pT2 ht, pT3 ht, pT4 ht, pT5 ht, pT6 ht, pT7 ht, pT8 ht, pT9 ht]
      refine c_bitCount ?_
      rw [iv_m hB, bc_met (iv_mOK hB)]
      simp only [cp_kk, cp_vc, cp_vs, cp_jm, cp_ent_en, cp_en_int, cp_en_ref, cp_en_ret, cp_en_long, cp_en_nil, cp_s1_at, cp_s2_at, cp_nl_int, cp_nl_ref, cp_nl_long, cp_nl_none, cp_pop_0, cp_pop_s, reduceIte, if_true, if_false, Bool.false_eq_true, Bool.true_eq_false, false_implies, implies_true, forall_const, true_implies, true_and, and_true, and_self, true_or, or_true, false_or, or_false, Value.category, List.length_cons, List.length_nil, Option.toList_some, Option.toList_none, List.cons_append, List.nil_append, List.append_nil, Prod.mk.injEq, Nat.add_zero, Nat.zero_add, Nat.reduceAdd, Nat.reduceSub, Nat.reduceEqDiff, Nat.reduceLeDiff, Nat.reduceLT, Nat.le_refl, beq_self_eq_true, Nat.reduceBEq, ne_eq, not_true_eq_false, not_false_eq_true, Int32.reduceAdd, Int32.reduceSub, Int32.reduceMul, Int32.reduceLE, Int32.reduceLT, Int32.reduceToNatClampNeg, b01_0, b01_1, ne_2_0, ne_3_0, ne_4_0, ne_5_0, ne_6_0, ne_m1_0, ne_m2_0, b01_01, b01_n, lt_m2, lt_m1, le_m2, le_m1, Classical.not_not, Bool.or_false, Bool.false_or, Bool.true_or, Bool.or_true, j_CP_size_0, b_CP_size_0, j_CP_size_72, b_CP_size_72, j_CP_size_83, b_CP_size_83, j_CP_size_94, b_CP_size_94, j_CP_size_105, b_CP_size_105, j_CP_size_116, b_CP_size_116, j_CP_size_127, b_CP_size_127, j_CP_size_139, b_CP_size_139, j_CP_size_151, b_CP_size_151, j_CP_size_162, b_CP_size_162, j_CP_size_173, b_CP_size_173, j_CP_size_184, b_CP_size_184, j_CP_size_192, b_CP_size_192, j_CP_size_200, b_CP_size_200, j_CP_size_208, b_CP_size_208, j_CP_size_213, b_CP_size_213, an_0, an_1, ne_0_1, ne_0_m1, ne_1_0, ne_1_m1, ne_m1_0, ne_m1_1, pp_0_7, pp_0_8, pp_15_0, pp_15_4, pp_15_5, sh_0, sh_15, sh_26, sh_27, sh_30]
      refine fin _ (v2 _ (by omega) (by omega) rfl (fun hn => ?_) ?_)
      · rw [(hZ hn).1]
        decide +kernel
      · rw [if_pos rfl]
        exact (iv_row hB).2.2.1.symm
    · have v := val 10
      have v2 := val2 10
      rw [show nI 10 = (10 : Int32) from rfl] at hwk v v2
      subst hwk
      refine cp_run 60 (fun _ => false) ck_CP_size ?_
      simp only [cp_vc, cp_vs, cp_jm, cp_ent_en, cp_en_int, cp_en_ref, cp_en_ret, cp_en_long, cp_en_nil, cp_s1_at, cp_s2_at, cp_nl_int, cp_nl_ref, cp_nl_long, cp_nl_none, cp_pop_0, cp_pop_s, reduceIte, if_true, if_false, Bool.false_eq_true, Bool.true_eq_false, false_implies, implies_true, forall_const, true_implies, true_and, and_true, and_self, true_or, or_true, false_or, or_false, Value.category, List.length_cons, List.length_nil, Option.toList_some, Option.toList_none, List.cons_append, List.nil_append, List.append_nil, Prod.mk.injEq, Nat.add_zero, Nat.zero_add, Nat.reduceAdd, Nat.reduceSub, Nat.reduceEqDiff, Nat.reduceLeDiff, Nat.reduceLT, Nat.le_refl, beq_self_eq_true, Nat.reduceBEq, ne_eq, not_true_eq_false, not_false_eq_true, Int32.reduceAdd, Int32.reduceSub, Int32.reduceMul, Int32.reduceLE, Int32.reduceLT, Int32.reduceToNatClampNeg, b01_0, b01_1, ne_2_0, ne_3_0, ne_4_0, ne_5_0, ne_6_0, ne_m1_0, ne_m2_0, b01_01, b01_n, lt_m2, lt_m1, le_m2, le_m1, Classical.not_not, j_CP_size_0, b_CP_size_0, j_CP_size_72, b_CP_size_72, j_CP_size_83, b_CP_size_83, j_CP_size_94, b_CP_size_94, j_CP_size_105, b_CP_size_105, j_CP_size_116, b_CP_size_116, j_CP_size_127, b_CP_size_127, j_CP_size_139, b_CP_size_139, j_CP_size_151, b_CP_size_151, j_CP_size_162, b_CP_size_162, j_CP_size_173, b_CP_size_173, j_CP_size_184, b_CP_size_184, j_CP_size_192, b_CP_size_192, j_CP_size_200, b_CP_size_200, j_CP_size_208, b_CP_size_208, j_CP_size_213, b_CP_size_213, an_0, an_1, ne_0_1, ne_0_m1, ne_1_0, ne_1_m1, ne_m1_0, ne_m1_1, pp_0_7, pp_0_8, pp_15_0, pp_15_4, pp_15_5, sh_0, sh_15, sh_26, sh_27, sh_30, cp_sw, ti_10, Int.reduceLT, Int.reduceEq, Int.reduceAdd, or_self, false_implies, pp_15_0, sT0 ht, sT1 ht, sT2 ht, sT3 ht, sT4 ht, sT5 ht, sT6 ht, sT7 ht, sT8 ht, sT9 ht, pT1 ht, pT2 ht, pT3 ht, pT4 ht, pT5 ht, pT6 ht, pT7 ht, pT8 ht, pT9 ht]
      exact fin _ (v2 _ (by omega) (by omega) rfl (fun hn => (hZ hn).2.2.1) (iv_row hB).2.2.2.symm)
    · have v := val 11
      have v2 := val2 11
      rw [show nI 11 = (11 : Int32) from rfl] at hwk v v2
      subst hwk
      refine cp_run 60 (fun _ => false) ck_CP_size ?_
      simp only [cp_vc, cp_vs, cp_jm, cp_ent_en, cp_en_int, cp_en_ref, cp_en_ret, cp_en_long, cp_en_nil, cp_s1_at, cp_s2_at, cp_nl_int, cp_nl_ref, cp_nl_long, cp_nl_none, cp_pop_0, cp_pop_s, reduceIte, if_true, if_false, Bool.false_eq_true, Bool.true_eq_false, false_implies, implies_true, forall_const, true_implies, true_and, and_true, and_self, true_or, or_true, false_or, or_false, Value.category, List.length_cons, List.length_nil, Option.toList_some, Option.toList_none, List.cons_append, List.nil_append, List.append_nil, Prod.mk.injEq, Nat.add_zero, Nat.zero_add, Nat.reduceAdd, Nat.reduceSub, Nat.reduceEqDiff, Nat.reduceLeDiff, Nat.reduceLT, Nat.le_refl, beq_self_eq_true, Nat.reduceBEq, ne_eq, not_true_eq_false, not_false_eq_true, Int32.reduceAdd, Int32.reduceSub, Int32.reduceMul, Int32.reduceLE, Int32.reduceLT, Int32.reduceToNatClampNeg, b01_0, b01_1, ne_2_0, ne_3_0, ne_4_0, ne_5_0, ne_6_0, ne_m1_0, ne_m2_0, b01_01, b01_n, lt_m2, lt_m1, le_m2, le_m1, Classical.not_not, j_CP_size_0, b_CP_size_0, j_CP_size_72, b_CP_size_72, j_CP_size_83, b_CP_size_83, j_CP_size_94, b_CP_size_94, j_CP_size_105, b_CP_size_105, j_CP_size_116, b_CP_size_116, j_CP_size_127, b_CP_size_127, j_CP_size_139, b_CP_size_139, j_CP_size_151, b_CP_size_151, j_CP_size_162, b_CP_size_162, j_CP_size_173, b_CP_size_173, j_CP_size_184, b_CP_size_184, j_CP_size_192, b_CP_size_192, j_CP_size_200, b_CP_size_200, j_CP_size_208, b_CP_size_208, j_CP_size_213, b_CP_size_213, an_0, an_1, ne_0_1, ne_0_m1, ne_1_0, ne_1_m1, ne_m1_0, ne_m1_1, pp_0_7, pp_0_8, pp_15_0, pp_15_4, pp_15_5, sh_0, sh_15, sh_26, sh_27, sh_30, cp_sw, ti_11, Int.reduceLT, Int.reduceEq, Int.reduceAdd, or_self, false_implies, pp_15_0, sT0 ht, sT1 ht, sT2 ht, sT3 ht, sT4 ht, sT5 ht, sT6 ht, sT7 ht, sT8 ht, sT9 ht, pT1 ht, pT2 ht, pT3 ht, pT4 ht, pT5 ht, pT6 ht, pT7 ht, pT8 ht, pT9 ht]
      exact fin _ (v2 _ (by omega) (by omega) rfl (fun hn => (hZ hn).2.2.2.1) (by rw [q7, ← q20]; rfl))
    · have v := val 12
      have v2 := val2 12
      rw [show nI 12 = (12 : Int32) from rfl] at hwk v v2
      subst hwk
      refine cp_run 60 (fun _ => false) ck_CP_size ?_
      simp only [cp_vc, cp_vs, cp_jm, cp_ent_en, cp_en_int, cp_en_ref, cp_en_ret, cp_en_long, cp_en_nil, cp_s1_at, cp_s2_at, cp_nl_int, cp_nl_ref, cp_nl_long, cp_nl_none, cp_pop_0, cp_pop_s, reduceIte, if_true, if_false, Bool.false_eq_true, Bool.true_eq_false, false_implies, implies_true, forall_const, true_implies, true_and, and_true, and_self, true_or, or_true, false_or, or_false, Value.category, List.length_cons, List.length_nil, Option.toList_some, Option.toList_none, List.cons_append, List.nil_append, List.append_nil, Prod.mk.injEq, Nat.add_zero, Nat.zero_add, Nat.reduceAdd, Nat.reduceSub, Nat.reduceEqDiff, Nat.reduceLeDiff, Nat.reduceLT, Nat.le_refl, beq_self_eq_true, Nat.reduceBEq, ne_eq, not_true_eq_false, not_false_eq_true, Int32.reduceAdd, Int32.reduceSub, Int32.reduceMul, Int32.reduceLE, Int32.reduceLT, Int32.reduceToNatClampNeg, b01_0, b01_1, ne_2_0, ne_3_0, ne_4_0, ne_5_0, ne_6_0, ne_m1_0, ne_m2_0, b01_01, b01_n, lt_m2, lt_m1, le_m2, le_m1, Classical.not_not, j_CP_size_0, b_CP_size_0, j_CP_size_72, b_CP_size_72, j_CP_size_83, b_CP_size_83, j_CP_size_94, b_CP_size_94, j_CP_size_105, b_CP_size_105, j_CP_size_116, b_CP_size_116, j_CP_size_127, b_CP_size_127, j_CP_size_139, b_CP_size_139, j_CP_size_151, b_CP_size_151, j_CP_size_162, b_CP_size_162, j_CP_size_173, b_CP_size_173, j_CP_size_184, b_CP_size_184, j_CP_size_192, b_CP_size_192, j_CP_size_200, b_CP_size_200, j_CP_size_208, b_CP_size_208, j_CP_size_213, b_CP_size_213, an_0, an_1, ne_0_1, ne_0_m1, ne_1_0, ne_1_m1, ne_m1_0, ne_m1_1, pp_0_7, pp_0_8, pp_15_0, pp_15_4, pp_15_5, sh_0, sh_15, sh_26, sh_27, sh_30, cp_sw, ti_12, Int.reduceLT, Int.reduceEq, Int.reduceAdd, or_self, false_implies, pp_15_0, sT0 ht, sT1 ht, sT2 ht, sT3 ht, sT4 ht, sT5 ht, sT6 ht, sT7 ht, sT8 ht, sT9 ht, pT1 ht, pT2 ht, pT3 ht, pT4 ht, pT5 ht, pT6 ht, pT7 ht, pT8 ht, pT9 ht]
      exact fin _ (v2 _ (by omega) (by omega) rfl (fun hn => (hZ hn).2.2.2.2) (by rw [q8, ← q21]; rfl))
    · have v := val 13
      have v2 := val2 13
      rw [show nI 13 = (13 : Int32) from rfl] at hwk v v2
      subst hwk
      refine cp_run 60 (fun _ => false) ck_CP_size ?_
      simp only [cp_vc, cp_vs, cp_jm, cp_ent_en, cp_en_int, cp_en_ref, cp_en_ret, cp_en_long, cp_en_nil, cp_s1_at, cp_s2_at, cp_nl_int, cp_nl_ref, cp_nl_long, cp_nl_none, cp_pop_0, cp_pop_s, reduceIte, if_true, if_false, Bool.false_eq_true, Bool.true_eq_false, false_implies, implies_true, forall_const, true_implies, true_and, and_true, and_self, true_or, or_true, false_or, or_false, Value.category, List.length_cons, List.length_nil, Option.toList_some, Option.toList_none, List.cons_append, List.nil_append, List.append_nil, Prod.mk.injEq, Nat.add_zero, Nat.zero_add, Nat.reduceAdd, Nat.reduceSub, Nat.reduceEqDiff, Nat.reduceLeDiff, Nat.reduceLT, Nat.le_refl, beq_self_eq_true, Nat.reduceBEq, ne_eq, not_true_eq_false, not_false_eq_true, Int32.reduceAdd, Int32.reduceSub, Int32.reduceMul, Int32.reduceLE, Int32.reduceLT, Int32.reduceToNatClampNeg, b01_0, b01_1, ne_2_0, ne_3_0, ne_4_0, ne_5_0, ne_6_0, ne_m1_0, ne_m2_0, b01_01, b01_n, lt_m2, lt_m1, le_m2, le_m1, Classical.not_not, j_CP_size_0, b_CP_size_0, j_CP_size_72, b_CP_size_72, j_CP_size_83, b_CP_size_83, j_CP_size_94, b_CP_size_94, j_CP_size_105, b_CP_size_105, j_CP_size_116, b_CP_size_116, j_CP_size_127, b_CP_size_127, j_CP_size_139, b_CP_size_139, j_CP_size_151, b_CP_size_151, j_CP_size_162, b_CP_size_162, j_CP_size_173, b_CP_size_173, j_CP_size_184, b_CP_size_184, j_CP_size_192, b_CP_size_192, j_CP_size_200, b_CP_size_200, j_CP_size_208, b_CP_size_208, j_CP_size_213, b_CP_size_213, an_0, an_1, ne_0_1, ne_0_m1, ne_1_0, ne_1_m1, ne_m1_0, ne_m1_1, pp_0_7, pp_0_8, pp_15_0, pp_15_4, pp_15_5, sh_0, sh_15, sh_26, sh_27, sh_30, cp_sw, ti_13, Int.reduceLT, Int.reduceEq, Int.reduceAdd, or_self, false_implies, pp_15_0, sT0 ht, sT1 ht, sT2 ht, sT3 ht, sT4 ht, sT5 ht, sT6 ht, sT7 ht, sT8 ht, sT9 ht, pT1 ht, pT2 ht, pT3 ht, pT4 ht, pT5 ht, pT6 ht, pT7 ht, pT8 ht, pT9 ht]
      exact fin _ (by unfold szA; rw [if_pos rfl, t1, t2])
  · have hr : w.toInt < 0 ∨ 13 < w.toInt := by
      by_cases c : w < 0
      · left
        rw [Int32.lt_iff_toInt_lt] at c
        exact c
      · right
        obtain ⟨k, hk, rfl⟩ := nI_of c
        have : ¬ k < 14 := fun q => hw ⟨k, q, rfl⟩
        rw [nI_toInt hk]
        omega
    have f0 : (w.toInt = 0) = False := eq_false (by omega)
    have f1 : (w.toInt = 1) = False := eq_false (by omega)
    have f2 : (w.toInt = 2) = False := eq_false (by omega)
    have f3 : (w.toInt = 3) = False := eq_false (by omega)
    have f4 : (w.toInt = 4) = False := eq_false (by omega)
    have f5 : (w.toInt = 5) = False := eq_false (by omega)
    have f6 : (w.toInt = 6) = False := eq_false (by omega)
    have f7 : (w.toInt = 7) = False := eq_false (by omega)
    have f8 : (w.toInt = 8) = False := eq_false (by omega)
    have f9 : (w.toInt = 9) = False := eq_false (by omega)
    have f10 : (w.toInt = 10) = False := eq_false (by omega)
    have f11 : (w.toInt = 11) = False := eq_false (by omega)
    have f12 : (w.toInt = 12) = False := eq_false (by omega)
    have f13 : (w.toInt = 13) = False := eq_false (by omega)
    refine cp_run 60 (fun _ => false) ck_CP_size ?_
    simp only [cp_vc, cp_vs, cp_jm, cp_ent_en, cp_en_int, cp_en_ref, cp_en_ret, cp_en_long, cp_en_nil, cp_s1_at, cp_s2_at, cp_nl_int, cp_nl_ref, cp_nl_long, cp_nl_none, cp_pop_0, cp_pop_s, reduceIte, if_true, if_false, Bool.false_eq_true, Bool.true_eq_false, false_implies, implies_true, forall_const, true_implies, true_and, and_true, and_self, true_or, or_true, false_or, or_false, Value.category, List.length_cons, List.length_nil, Option.toList_some, Option.toList_none, List.cons_append, List.nil_append, List.append_nil, Prod.mk.injEq, Nat.add_zero, Nat.zero_add, Nat.reduceAdd, Nat.reduceSub, Nat.reduceEqDiff, Nat.reduceLeDiff, Nat.reduceLT, Nat.le_refl, beq_self_eq_true, Nat.reduceBEq, ne_eq, not_true_eq_false, not_false_eq_true, Int32.reduceAdd, Int32.reduceSub, Int32.reduceMul, Int32.reduceLE, Int32.reduceLT, Int32.reduceToNatClampNeg, b01_0, b01_1, ne_2_0, ne_3_0, ne_4_0, ne_5_0, ne_6_0, ne_m1_0, ne_m2_0, b01_01, b01_n, lt_m2, lt_m1, le_m2, le_m1, Classical.not_not, j_CP_size_0, b_CP_size_0, j_CP_size_72, b_CP_size_72, j_CP_size_83, b_CP_size_83, j_CP_size_94, b_CP_size_94, j_CP_size_105, b_CP_size_105, j_CP_size_116, b_CP_size_116, j_CP_size_127, b_CP_size_127, j_CP_size_139, b_CP_size_139, j_CP_size_151, b_CP_size_151, j_CP_size_162, b_CP_size_162, j_CP_size_173, b_CP_size_173, j_CP_size_184, b_CP_size_184, j_CP_size_192, b_CP_size_192, j_CP_size_200, b_CP_size_200, j_CP_size_208, b_CP_size_208, j_CP_size_213, b_CP_size_213, an_0, an_1, ne_0_1, ne_0_m1, ne_1_0, ne_1_m1, ne_m1_0, ne_m1_1, pp_0_7, pp_0_8, pp_15_0, pp_15_4, pp_15_5, sh_0, sh_15, sh_26, sh_27, sh_30, cp_sw, Int.reduceAdd, f0, f1, f2, f3, f4, f5, f6, f7, f8, f9, f10, f11, f12, f13, hr]
    refine fin _ ?_
    have nw : ∀ k : Nat, k < 14 → ¬ w = nI k := fun k hk e => hw ⟨k, hk, e⟩
    have n13 : ¬ w = 13 := nw 13 (by omega)
    have n5 : ¬ w = 5 := nw 5 (by omega)
    have n9 : ¬ w = 9 := nw 9 (by omega)
    have n10 : ¬ w = 10 := nw 10 (by omega)
    have n11 : ¬ w = 11 := nw 11 (by omega)
    have n12 : ¬ w = 12 := nw 12 (by omega)
    have hr8 : w < 0 ∨ 8 < w := by
      rw [Int32.lt_iff_toInt_lt, Int32.lt_iff_toInt_lt, ti_8]
      show w.toInt < 0 ∨ 8 < w.toInt
      omega
    have hr12 : ¬ w < 0 → 12 < w := fun c => by
      rw [Int32.lt_iff_toInt_lt] at c ⊢
      rw [ti_12]
      have : ¬ w.toInt < 0 := c
      omega
    unfold szA
    rw [if_neg n13]
    by_cases hn : n = 0
    · rw [if_pos (iv_p0 hB hn)]
      by_cases c : w < 0
      · rw [if_pos c]
      · rw [if_neg c, if_pos (hr12 c)]
    · rw [if_neg (iv_p1 hB (by omega)), if_neg n5, if_pos hr8, if_neg n9, if_neg n10, if_neg n11, if_neg n12]
end Pr5
