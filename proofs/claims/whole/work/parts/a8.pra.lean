section Pra
variable {g : cp_G} {d : Nat} {I M N : cp_I} {J : cp_J} {Q : cp_QT} {t u r x : Nat}
theorem pr_comes {a : Int32} (h : Iv I t u) : PR g d m_CP_comes m_Mod_comes [.int a] I J t u r x := by
  obtain ⟨⟨n, s, m, h0⟩, -, -⟩ := h
  have hB := h0.1
  have b0 := (iv_rf h0 1).1
  have b1 := (iv_rf h0 0).1
  have b2 := (iv_rf h0 2).1
  unfold PR
  refine MW.of ok_CP_comes (Nat.le_of_ble_eq_true rfl) ?_
  refine cp_run 40 (fun _ => false) ck_CP_comes ?_
  simp only [cp_vc, cp_vs, cp_jm, cp_ent_en, cp_en_int, cp_en_ref, cp_en_ret, cp_en_long, cp_en_nil, cp_s1_at, cp_s2_at, cp_nl_int, cp_nl_ref, cp_nl_long, cp_nl_none, cp_pop_0, cp_pop_s, reduceIte, if_true, if_false, Bool.false_eq_true, Bool.true_eq_false, false_implies, implies_true, forall_const, true_implies, true_and, and_true, and_self, true_or, or_true, false_or, or_false, Value.category, List.length_cons, List.length_nil, Option.toList_some, Option.toList_none, List.cons_append, List.nil_append, List.append_nil, Prod.mk.injEq, Nat.add_zero, Nat.zero_add, Nat.reduceAdd, Nat.reduceSub, Nat.reduceEqDiff, Nat.reduceLeDiff, Nat.reduceLT, Nat.le_refl, beq_self_eq_true, Nat.reduceBEq, ne_eq, not_true_eq_false, not_false_eq_true, Int32.reduceAdd, Int32.reduceSub, Int32.reduceMul, Int32.reduceLE, Int32.reduceLT, Int32.reduceToNatClampNeg, b01_0, b01_1, ne_2_0, ne_3_0, ne_4_0, ne_5_0, ne_6_0, ne_m1_0, ne_m2_0, b01_01, b01_n, lt_m2, lt_m1, le_m2, le_m1, Classical.not_not, j_CP_comes_0, b_CP_comes_0, j_CP_comes_10, b_CP_comes_10, j_CP_comes_29, b_CP_comes_29, j_CP_comes_30, b_CP_comes_30, an_0, an_1, cl_0, cl_1, ne_0_1, ne_0_m1, ne_1_0, ne_1_m1, ne_m1_0, ne_m1_1, pp_0_7, pp_0_9, sh_0, sh_15, sh_37, vi_0, vi_1]
  refine c_CP_isCompany (n := n) (iv_tk hB) (iv_n6 hB) (iv_cn hB) ?_ ?_ ?_
  · intro z hn hz ha
    subst ha
    have hz6 : z < 64 := Nat.lt_of_lt_of_le hz (pw64 (iv_n6 hB))
    have er := (iv_ro b1 hz).1
    have fin : ∀ v : Int32, v = (if (ro (rfu I 0) n z).1 = true then 1 else 0) → QA g d m_Mod_comes [.int (nI z)] (some (.int v)) SH (rfu I 0) J (PP t u r x) := fun v hv => by
      refine mid_i ?_
      refine c_Mod_comes (iv_n6 b1) (iv_n b1) (iv_01 b1) ?_ ?_
      · intro z' _ hz' e
        have e' : z = z' := (nI_eq (by omega) (by omega)).1 e
        subst e'
        exact fin_i hv.symm (iv_gk h0 (kp_rfu kp_r 0) rfu_2 (kp_od kp_r _ (by decide) (by omega) (by omega)) (by unfold od; rw [if_neg (by omega)]) (by unfold od; rw [if_neg (by omega)]))
      · intro e
        exact absurd (iv_sw b1 hn hz) e
    rw [er] at fin
    simp only [cp_kk, cp_vc, cp_vs, cp_jm, cp_ent_en, cp_en_int, cp_en_ref, cp_en_ret, cp_en_long, cp_en_nil, cp_s1_at, cp_s2_at, cp_nl_int, cp_nl_ref, cp_nl_long, cp_nl_none, cp_pop_0, cp_pop_s, reduceIte, if_true, if_false, Bool.false_eq_true, Bool.true_eq_false, false_implies, implies_true, forall_const, true_implies, true_and, and_true, and_self, true_or, or_true, false_or, or_false, Value.category, List.length_cons, List.length_nil, Option.toList_some, Option.toList_none, List.cons_append, List.nil_append, List.append_nil, Prod.mk.injEq, Nat.add_zero, Nat.zero_add, Nat.reduceAdd, Nat.reduceSub, Nat.reduceEqDiff, Nat.reduceLeDiff, Nat.reduceLT, Nat.le_refl, beq_self_eq_true, Nat.reduceBEq, ne_eq, not_true_eq_false, not_false_eq_true, Int32.reduceAdd, Int32.reduceSub, Int32.reduceMul, Int32.reduceLE, Int32.reduceLT, Int32.reduceToNatClampNeg, b01_0, b01_1, ne_2_0, ne_3_0, ne_4_0, ne_5_0, ne_6_0, ne_m1_0, ne_m2_0, b01_01, b01_n, lt_m2, lt_m1, le_m2, le_m1, Classical.not_not, Bool.or_false, Bool.false_or, Bool.true_or, Bool.or_true, j_CP_comes_0, b_CP_comes_0, j_CP_comes_10, b_CP_comes_10, j_CP_comes_29, b_CP_comes_29, j_CP_comes_30, b_CP_comes_30, an_0, an_1, cl_0, cl_1, ne_0_1, ne_0_m1, ne_1_0, ne_1_m1, ne_m1_0, ne_m1_1, pp_0_7, pp_0_9, sh_0, sh_15, sh_37, vi_0, vi_1]
    refine c_Comp_canComeIn (iv_cT b1) hz6 ?_
    by_cases q : (cst (rfu I 0) z).testBit 0 = true
    · simp only [cp_kk, cp_vc, cp_vs, cp_jm, cp_ent_en, cp_en_int, cp_en_ref, cp_en_ret, cp_en_long, cp_en_nil, cp_s1_at, cp_s2_at, cp_nl_int, cp_nl_ref, cp_nl_long, cp_nl_none, cp_pop_0, cp_pop_s, reduceIte, if_true, if_false, Bool.false_eq_true, Bool.true_eq_false, false_implies, implies_true, forall_const, true_implies, true_and, and_true, and_self, true_or, or_true, false_or, or_false, Value.category, List.length_cons, List.length_nil, Option.toList_some, Option.toList_none, List.cons_append, List.nil_append, List.append_nil, Prod.mk.injEq, Nat.add_zero, Nat.zero_add, Nat.reduceAdd, Nat.reduceSub, Nat.reduceEqDiff, Nat.reduceLeDiff, Nat.reduceLT, Nat.le_refl, beq_self_eq_true, Nat.reduceBEq, ne_eq, not_true_eq_false, not_false_eq_true, Int32.reduceAdd, Int32.reduceSub, Int32.reduceMul, Int32.reduceLE, Int32.reduceLT, Int32.reduceToNatClampNeg, b01_0, b01_1, ne_2_0, ne_3_0, ne_4_0, ne_5_0, ne_6_0, ne_m1_0, ne_m2_0, b01_01, b01_n, lt_m2, lt_m1, le_m2, le_m1, Classical.not_not, Bool.or_false, Bool.false_or, Bool.true_or, Bool.or_true, j_CP_comes_0, b_CP_comes_0, j_CP_comes_10, b_CP_comes_10, j_CP_comes_29, b_CP_comes_29, j_CP_comes_30, b_CP_comes_30, an_0, an_1, cl_0, cl_1, ne_0_1, ne_0_m1, ne_1_0, ne_1_m1, ne_m1_0, ne_m1_1, pp_0_7, pp_0_9, sh_0, sh_15, sh_37, vi_0, vi_1, q]
      exact fin 1 (by rw [if_pos q])
    · simp only [cp_kk, cp_vc, cp_vs, cp_jm, cp_ent_en, cp_en_int, cp_en_ref, cp_en_ret, cp_en_long, cp_en_nil, cp_s1_at, cp_s2_at, cp_nl_int, cp_nl_ref, cp_nl_long, cp_nl_none, cp_pop_0, cp_pop_s, reduceIte, if_true, if_false, Bool.false_eq_true, Bool.true_eq_false, false_implies, implies_true, forall_const, true_implies, true_and, and_true, and_self, true_or, or_true, false_or, or_false, Value.category, List.length_cons, List.length_nil, Option.toList_some, Option.toList_none, List.cons_append, List.nil_append, List.append_nil, Prod.mk.injEq, Nat.add_zero, Nat.zero_add, Nat.reduceAdd, Nat.reduceSub, Nat.reduceEqDiff, Nat.reduceLeDiff, Nat.reduceLT, Nat.le_refl, beq_self_eq_true, Nat.reduceBEq, ne_eq, not_true_eq_false, not_false_eq_true, Int32.reduceAdd, Int32.reduceSub, Int32.reduceMul, Int32.reduceLE, Int32.reduceLT, Int32.reduceToNatClampNeg, b01_0, b01_1, ne_2_0, ne_3_0, ne_4_0, ne_5_0, ne_6_0, ne_m1_0, ne_m2_0, b01_01, b01_n, lt_m2, lt_m1, le_m2, le_m1, Classical.not_not, Bool.or_false, Bool.false_or, Bool.true_or, Bool.or_true, j_CP_comes_0, b_CP_comes_0, j_CP_comes_10, b_CP_comes_10, j_CP_comes_29, b_CP_comes_29, j_CP_comes_30, b_CP_comes_30, an_0, an_1, cl_0, cl_1, ne_0_1, ne_0_m1, ne_1_0, ne_1_m1, ne_m1_0, ne_m1_1, pp_0_7, pp_0_9, sh_0, sh_15, sh_37, vi_0, vi_1, q]
      exact fin 0 (by rw [if_neg q])
  · intro hn hno
    simp only [cp_kk, cp_vc, cp_vs, cp_jm, cp_ent_en, cp_en_int, cp_en_ref, cp_en_ret, cp_en_long, cp_en_nil, cp_s1_at, cp_s2_at, cp_nl_int, cp_nl_ref, cp_nl_long, cp_nl_none, cp_pop_0, cp_pop_s, reduceIte, if_true, if_false, Bool.false_eq_true, Bool.true_eq_false, false_implies, implies_true, forall_const, true_implies, true_and, and_true, and_self, true_or, or_true, false_or, or_false, Value.category, List.length_cons, List.length_nil, Option.toList_some, Option.toList_none, List.cons_append, List.nil_append, List.append_nil, Prod.mk.injEq, Nat.add_zero, Nat.zero_add, Nat.reduceAdd, Nat.reduceSub, Nat.reduceEqDiff, Nat.reduceLeDiff, Nat.reduceLT, Nat.le_refl, beq_self_eq_true, Nat.reduceBEq, ne_eq, not_true_eq_false, not_false_eq_true, Int32.reduceAdd, Int32.reduceSub, Int32.reduceMul, Int32.reduceLE, Int32.reduceLT, Int32.reduceToNatClampNeg, b01_0, b01_1, ne_2_0, ne_3_0, ne_4_0, ne_5_0, ne_6_0, ne_m1_0, ne_m2_0, b01_01, b01_n, lt_m2, lt_m1, le_m2, le_m1, Classical.not_not, Bool.or_false, Bool.false_or, Bool.true_or, Bool.or_true, j_CP_comes_0, b_CP_comes_0, j_CP_comes_10, b_CP_comes_10, j_CP_comes_29, b_CP_comes_29, j_CP_comes_30, b_CP_comes_30, an_0, an_1, cl_0, cl_1, ne_0_1, ne_0_m1, ne_1_0, ne_1_m1, ne_m1_0, ne_m1_1, pp_0_7, pp_0_9, sh_0, sh_15, sh_37, vi_0, vi_1]
    refine mid_i ?_
    refine c_Mod_comes (iv_n6 b2) (iv_n b2) (iv_01 b2) ?_ ?_
    · intro z' e
      rw [iv_sw2 b2 hn hno] at e
      exact absurd e (by decide +kernel)
    · intro _
      rw [iv_sw2 b2 hn hno]
      exact fin_i rfl (iv_rn h0 n24)
  · intro hn
    simp only [cp_kk, cp_vc, cp_vs, cp_jm, cp_ent_en, cp_en_int, cp_en_ref, cp_en_ret, cp_en_long, cp_en_nil, cp_s1_at, cp_s2_at, cp_nl_int, cp_nl_ref, cp_nl_long, cp_nl_none, cp_pop_0, cp_pop_s, reduceIte, if_true, if_false, Bool.false_eq_true, Bool.true_eq_false, false_implies, implies_true, forall_const, true_implies, true_and, and_true, and_self, true_or, or_true, false_or, or_false, Value.category, List.length_cons, List.length_nil, Option.toList_some, Option.toList_none, List.cons_append, List.nil_append, List.append_nil, Prod.mk.injEq, Nat.add_zero, Nat.zero_add, Nat.reduceAdd, Nat.reduceSub, Nat.reduceEqDiff, Nat.reduceLeDiff, Nat.reduceLT, Nat.le_refl, beq_self_eq_true, Nat.reduceBEq, ne_eq, not_true_eq_false, not_false_eq_true, Int32.reduceAdd, Int32.reduceSub, Int32.reduceMul, Int32.reduceLE, Int32.reduceLT, Int32.reduceToNatClampNeg, b01_0, b01_1, ne_2_0, ne_3_0, ne_4_0, ne_5_0, ne_6_0, ne_m1_0, ne_m2_0, b01_01, b01_n, lt_m2, lt_m1, le_m2, le_m1, Classical.not_not, Bool.or_false, Bool.false_or, Bool.true_or, Bool.or_true, j_CP_comes_0, b_CP_comes_0, j_CP_comes_10, b_CP_comes_10, j_CP_comes_29, b_CP_comes_29, j_CP_comes_30, b_CP_comes_30, an_0, an_1, cl_0, cl_1, ne_0_1, ne_0_m1, ne_1_0, ne_1_m1, ne_m1_0, ne_m1_1, pp_0_7, pp_0_9, sh_0, sh_15, sh_37, vi_0, vi_1]
    refine mid_i ?_
    refine c_Mod_comes (iv_n6 b0) (iv_n b0) (iv_01 b0) ?_ ?_
    · intro z' e
      rw [iv_sw0 b0 hn] at e
      exact absurd e (by decide +kernel)
    · intro _
      rw [iv_sw0 b0 hn]
      exact fin_i rfl (iv_rn h0 n14)
theorem od_g {w : Int32} {n s m : Nat} {O : Nat → Int32} (h0 : Iv0 I t u n s m) (hw : ¬ w = 4) : Iv (cp_u (od (gd (rfu I w)) 52 O) 44 11 w) t u := iv_end h0 (kp_11 (kp_od (kp_gd (kp_rfu kp_r w)) _ (by decide) (by omega) (by omega)) w) (w := w) (by rw [cp_u_at, if_neg (by omega)]; unfold od; rw [if_neg (by omega), gd_o (by omega)]; exact rfu_2) (by rw [cp_u_at, if_pos ⟨rfl, rfl⟩]) hw
theorem pr_comesAt {a i : Int32} (h : Iv I t u) : PR g d m_CP_comesAt m_Mod_comesAt [.int a, .int i] I J t u r x := by
  obtain ⟨⟨n, s, m, h0⟩, -, -⟩ := h
  have hB := h0.1
  have b0 := (iv_rf h0 1).1
  have b1 := (iv_rf h0 0).1
  have b2 := (iv_rf h0 2).1
  unfold PR
  refine MW.of ok_CP_comesAt (Nat.le_of_ble_eq_true rfl) ?_
  refine cp_run 40 (fun _ => false) ck_CP_comesAt ?_
  simp only [cp_vc, cp_vs, cp_jm, cp_ent_en, cp_en_int, cp_en_ref, cp_en_ret, cp_en_long, cp_en_nil, cp_s1_at, cp_s2_at, cp_nl_int, cp_nl_ref, cp_nl_long, cp_nl_none, cp_pop_0, cp_pop_s, reduceIte, if_true, if_false, Bool.false_eq_true, Bool.true_eq_false, false_implies, implies_true, forall_const, true_implies, true_and, and_true, and_self, true_or, or_true, false_or, or_false, Value.category, List.length_cons, List.length_nil, Option.toList_some, Option.toList_none, List.cons_append, List.nil_append, List.append_nil, Prod.mk.injEq, Nat.add_zero, Nat.zero_add, Nat.reduceAdd, Nat.reduceSub, Nat.reduceEqDiff, Nat.reduceLeDiff, Nat.reduceLT, Nat.le_refl, beq_self_eq_true, Nat.reduceBEq, ne_eq, not_true_eq_false, not_false_eq_true, Int32.reduceAdd, Int32.reduceSub, Int32.reduceMul, Int32.reduceLE, Int32.reduceLT, Int32.reduceToNatClampNeg, b01_0, b01_1, ne_2_0, ne_3_0, ne_4_0, ne_5_0, ne_6_0, ne_m1_0, ne_m2_0, b01_01, b01_n, lt_m2, lt_m1, le_m2, le_m1, Classical.not_not, j_CP_comesAt_0, b_CP_comesAt_0, j_CP_comesAt_10, b_CP_comesAt_10, j_CP_comesAt_38, b_CP_comesAt_38, j_CP_comesAt_39, b_CP_comesAt_39, an_0, an_1, cl_1, ne_0_1, ne_0_m1, ne_0_m2, ne_1_0, ne_1_m1, ne_1_m2, ne_m1_0, ne_m1_1, ne_m1_m2, ne_m2_0, ne_m2_1, ne_m2_m1, pp_0_7, pp_0_9, sh_0, sh_15, sh_37, vi_1]
  refine c_CP_isCompany (n := n) (iv_tk hB) (iv_n6 hB) (iv_cn hB) ?_ ?_ ?_
  · intro z hn hz ha
    subst ha
    have hz6 : z < 64 := Nat.lt_of_lt_of_le hz (pw64 (iv_n6 hB))
    obtain ⟨er, eo⟩ := iv_ro b1 hz
    have er0 := (iv_ro b0 hz).1
    have ec : cst (rfu I 1) z = cst (rfu I 0) z := by unfold cst; rw [rfu_cs, rfu_cs]
    simp only [cp_kk, cp_vc, cp_vs, cp_jm, cp_ent_en, cp_en_int, cp_en_ref, cp_en_ret, cp_en_long, cp_en_nil, cp_s1_at, cp_s2_at, cp_nl_int, cp_nl_ref, cp_nl_long, cp_nl_none, cp_pop_0, cp_pop_s, reduceIte, if_true, if_false, Bool.false_eq_true, Bool.true_eq_false, false_implies, implies_true, forall_const, true_implies, true_and, and_true, and_self, true_or, or_true, false_or, or_false, Value.category, List.length_cons, List.length_nil, Option.toList_some, Option.toList_none, List.cons_append, List.nil_append, List.append_nil, Prod.mk.injEq, Nat.add_zero, Nat.zero_add, Nat.reduceAdd, Nat.reduceSub, Nat.reduceEqDiff, Nat.reduceLeDiff, Nat.reduceLT, Nat.le_refl, beq_self_eq_true, Nat.reduceBEq, ne_eq, not_true_eq_false, not_false_eq_true, Int32.reduceAdd, Int32.reduceSub, Int32.reduceMul, Int32.reduceLE, Int32.reduceLT, Int32.reduceToNatClampNeg, b01_0, b01_1, ne_2_0, ne_3_0, ne_4_0, ne_5_0, ne_6_0, ne_m1_0, ne_m2_0, b01_01, b01_n, lt_m2, lt_m1, le_m2, le_m1, Classical.not_not, Bool.or_false, Bool.false_or, Bool.true_or, Bool.or_true, j_CP_comesAt_0, b_CP_comesAt_0, j_CP_comesAt_10, b_CP_comesAt_10, j_CP_comesAt_38, b_CP_comesAt_38, j_CP_comesAt_39, b_CP_comesAt_39, an_0, an_1, cl_1, ne_0_1, ne_0_m1, ne_0_m2, ne_1_0, ne_1_m1, ne_1_m2, ne_m1_0, ne_m1_1, ne_m1_m2, ne_m2_0, ne_m2_1, ne_m2_m1, pp_0_7, pp_0_9, sh_0, sh_15, sh_37, vi_1]
    refine c_Comp_comerAt (iv_cT b1) hz6 ?_ ?_
    · intro k hb hik hk
      subst hik
      have hr : (ro (rfu I 0) n z).1 = true := by rw [er]; exact hb
      obtain ⟨c, hc6, hc1, hc2⟩ := eo hr k hk
      have hk6 := card_le hz6
      have hne : ¬ nI c = -2 := fun e => nI_pos (show c < 2 ^ 31 by omega) (by rw [e]; decide +kernel)
      rw [hc1]
      simp only [cp_kk, cp_vc, cp_vs, cp_jm, cp_ent_en, cp_en_int, cp_en_ref, cp_en_ret, cp_en_long, cp_en_nil, cp_s1_at, cp_s2_at, cp_nl_int, cp_nl_ref, cp_nl_long, cp_nl_none, cp_pop_0, cp_pop_s, reduceIte, if_true, if_false, Bool.false_eq_true, Bool.true_eq_false, false_implies, implies_true, forall_const, true_implies, true_and, and_true, and_self, true_or, or_true, false_or, or_false, Value.category, List.length_cons, List.length_nil, Option.toList_some, Option.toList_none, List.cons_append, List.nil_append, List.append_nil, Prod.mk.injEq, Nat.add_zero, Nat.zero_add, Nat.reduceAdd, Nat.reduceSub, Nat.reduceEqDiff, Nat.reduceLeDiff, Nat.reduceLT, Nat.le_refl, beq_self_eq_true, Nat.reduceBEq, ne_eq, not_true_eq_false, not_false_eq_true, Int32.reduceAdd, Int32.reduceSub, Int32.reduceMul, Int32.reduceLE, Int32.reduceLT, Int32.reduceToNatClampNeg, b01_0, b01_1, ne_2_0, ne_3_0, ne_4_0, ne_5_0, ne_6_0, ne_m1_0, ne_m2_0, b01_01, b01_n, lt_m2, lt_m1, le_m2, le_m1, Classical.not_not, Bool.or_false, Bool.false_or, Bool.true_or, Bool.or_true, j_CP_comesAt_0, b_CP_comesAt_0, j_CP_comesAt_10, b_CP_comesAt_10, j_CP_comesAt_38, b_CP_comesAt_38, j_CP_comesAt_39, b_CP_comesAt_39, an_0, an_1, cl_1, ne_0_1, ne_0_m1, ne_0_m2, ne_1_0, ne_1_m1, ne_1_m2, ne_m1_0, ne_m1_1, ne_m1_m2, ne_m2_0, ne_m2_1, ne_m2_m1, pp_0_7, pp_0_9, sh_0, sh_15, sh_37, vi_1, oI, hne]
      refine mid_i ?_
      refine c_Mod_comesAt (iv_n6 b1) (iv_n b1) (iv_01 b1) ?_ ?_ ?_
      · intro z' k' _ hz' e _ e2 hk'
        have e' : z = z' := (nI_eq (by omega) (by omega)).1 e
        subst e'
        have e2' : k = k' := (nI_eq (by omega) (by omega)).1 e2
        subst e2'
        exact fin_i hc2 (iv_gk h0 (kp_rfu kp_r 0) rfu_2 (kp_od kp_r _ (by decide) (by omega) (by omega)) (by unfold od; rw [if_neg (by omega)]) (by unfold od; rw [if_neg (by omega)]))
      · intro z' _ hz' e hno
        have e' : z = z' := (nI_eq (by omega) (by omega)).1 e
        subst e'
        exact absurd ⟨hr, k, rfl, hk⟩ hno
      · intro e
        exact absurd (iv_sw b1 hn hz) e
    · intro hno
      simp only [cp_kk, cp_vc, cp_vs, cp_jm, cp_ent_en, cp_en_int, cp_en_ref, cp_en_ret, cp_en_long, cp_en_nil, cp_s1_at, cp_s2_at, cp_nl_int, cp_nl_ref, cp_nl_long, cp_nl_none, cp_pop_0, cp_pop_s, reduceIte, if_true, if_false, Bool.false_eq_true, Bool.true_eq_false, false_implies, implies_true, forall_const, true_implies, true_and, and_true, and_self, true_or, or_true, false_or, or_false, Value.category, List.length_cons, List.length_nil, Option.toList_some, Option.toList_none, List.cons_append, List.nil_append, List.append_nil, Prod.mk.injEq, Nat.add_zero, Nat.zero_add, Nat.reduceAdd, Nat.reduceSub, Nat.reduceEqDiff, Nat.reduceLeDiff, Nat.reduceLT, Nat.le_refl, beq_self_eq_true, Nat.reduceBEq, ne_eq, not_true_eq_false, not_false_eq_true, Int32.reduceAdd, Int32.reduceSub, Int32.reduceMul, Int32.reduceLE, Int32.reduceLT, Int32.reduceToNatClampNeg, b01_0, b01_1, ne_2_0, ne_3_0, ne_4_0, ne_5_0, ne_6_0, ne_m1_0, ne_m2_0, b01_01, b01_n, lt_m2, lt_m1, le_m2, le_m1, Classical.not_not, Bool.or_false, Bool.false_or, Bool.true_or, Bool.or_true, j_CP_comesAt_0, b_CP_comesAt_0, j_CP_comesAt_10, b_CP_comesAt_10, j_CP_comesAt_38, b_CP_comesAt_38, j_CP_comesAt_39, b_CP_comesAt_39, an_0, an_1, cl_1, ne_0_1, ne_0_m1, ne_0_m2, ne_1_0, ne_1_m1, ne_1_m2, ne_m1_0, ne_m1_1, ne_m1_m2, ne_m2_0, ne_m2_1, ne_m2_m1, pp_0_7, pp_0_9, sh_0, sh_15, sh_37, vi_1]
      refine c_CP_refuse ?_
      simp only [cp_kk, cp_vc, cp_vs, cp_jm, cp_ent_en, cp_en_int, cp_en_ref, cp_en_ret, cp_en_long, cp_en_nil, cp_s1_at, cp_s2_at, cp_nl_int, cp_nl_ref, cp_nl_long, cp_nl_none, cp_pop_0, cp_pop_s, reduceIte, if_true, if_false, Bool.false_eq_true, Bool.true_eq_false, false_implies, implies_true, forall_const, true_implies, true_and, and_true, and_self, true_or, or_true, false_or, or_false, Value.category, List.length_cons, List.length_nil, Option.toList_some, Option.toList_none, List.cons_append, List.nil_append, List.append_nil, Prod.mk.injEq, Nat.add_zero, Nat.zero_add, Nat.reduceAdd, Nat.reduceSub, Nat.reduceEqDiff, Nat.reduceLeDiff, Nat.reduceLT, Nat.le_refl, beq_self_eq_true, Nat.reduceBEq, ne_eq, not_true_eq_false, not_false_eq_true, Int32.reduceAdd, Int32.reduceSub, Int32.reduceMul, Int32.reduceLE, Int32.reduceLT, Int32.reduceToNatClampNeg, b01_0, b01_1, ne_2_0, ne_3_0, ne_4_0, ne_5_0, ne_6_0, ne_m1_0, ne_m2_0, b01_01, b01_n, lt_m2, lt_m1, le_m2, le_m1, Classical.not_not, Bool.or_false, Bool.false_or, Bool.true_or, Bool.or_true, j_CP_comesAt_0, b_CP_comesAt_0, j_CP_comesAt_10, b_CP_comesAt_10, j_CP_comesAt_38, b_CP_comesAt_38, j_CP_comesAt_39, b_CP_comesAt_39, an_0, an_1, cl_1, ne_0_1, ne_0_m1, ne_0_m2, ne_1_0, ne_1_m1, ne_1_m2, ne_m1_0, ne_m1_1, ne_m1_m2, ne_m2_0, ne_m2_1, ne_m2_m1, pp_0_7, pp_0_9, sh_0, sh_15, sh_37, vi_1]
      rw [show rfu (rfu I 0) 1 = rfu I 1 from rfu_rfu]
      refine mid_i ?_
      refine c_Mod_comesAt (iv_n6 b0) (iv_n b0) (iv_01 b0) ?_ ?_ ?_
      · intro z' k' _ hz' e hr e2 hk'
        have e' : z = z' := (nI_eq (by omega) (by omega)).1 e
        subst e'
        refine absurd ⟨?_, k', e2, hk'⟩ hno
        rw [← ec, ← er0]
        exact hr
      · intro z' _ hz' e _
        exact fin_i rfl (od_g h0 n14)
      · intro e
        exact absurd (iv_sw b0 hn hz) e
  · intro hn hno
    simp only [cp_kk, cp_vc, cp_vs, cp_jm, cp_ent_en, cp_en_int, cp_en_ref, cp_en_ret, cp_en_long, cp_en_nil, cp_s1_at, cp_s2_at, cp_nl_int, cp_nl_ref, cp_nl_long, cp_nl_none, cp_pop_0, cp_pop_s, reduceIte, if_true, if_false, Bool.false_eq_true, Bool.true_eq_false, false_implies, implies_true, forall_const, true_implies, true_and, and_true, and_self, true_or, or_true, false_or, or_false, Value.category, List.length_cons, List.length_nil, Option.toList_some, Option.toList_none, List.cons_append, List.nil_append, List.append_nil, Prod.mk.injEq, Nat.add_zero, Nat.zero_add, Nat.reduceAdd, Nat.reduceSub, Nat.reduceEqDiff, Nat.reduceLeDiff, Nat.reduceLT, Nat.le_refl, beq_self_eq_true, Nat.reduceBEq, ne_eq, not_true_eq_false, not_false_eq_true, Int32.reduceAdd, Int32.reduceSub, Int32.reduceMul, Int32.reduceLE, Int32.reduceLT, Int32.reduceToNatClampNeg, b01_0, b01_1, ne_2_0, ne_3_0, ne_4_0, ne_5_0, ne_6_0, ne_m1_0, ne_m2_0, b01_01, b01_n, lt_m2, lt_m1, le_m2, le_m1, Classical.not_not, Bool.or_false, Bool.false_or, Bool.true_or, Bool.or_true, j_CP_comesAt_0, b_CP_comesAt_0, j_CP_comesAt_10, b_CP_comesAt_10, j_CP_comesAt_38, b_CP_comesAt_38, j_CP_comesAt_39, b_CP_comesAt_39, an_0, an_1, cl_1, ne_0_1, ne_0_m1, ne_0_m2, ne_1_0, ne_1_m1, ne_1_m2, ne_m1_0, ne_m1_1, ne_m1_m2, ne_m2_0, ne_m2_1, ne_m2_m1, pp_0_7, pp_0_9, sh_0, sh_15, sh_37, vi_1]
    refine mid_i ?_
    refine c_Mod_comesAt (iv_n6 b2) (iv_n b2) (iv_01 b2) ?_ ?_ ?_
    · intro z' k' e
      rw [iv_sw2 b2 hn hno] at e
      exact absurd e (by decide +kernel)
    · intro z' e
      rw [iv_sw2 b2 hn hno] at e
      exact absurd e (by decide +kernel)
    · intro _
      rw [iv_sw2 b2 hn hno]
      exact fin_i rfl (iv_rn h0 n24)
  · intro hn
    simp only [cp_kk, cp_vc, cp_vs, cp_jm, cp_ent_en, cp_en_int, cp_en_ref, cp_en_ret, cp_en_long, cp_en_nil, cp_s1_at, cp_s2_at, cp_nl_int, cp_nl_ref, cp_nl_long, cp_nl_none, cp_pop_0, cp_pop_s, reduceIte, if_true, if_false, Bool.false_eq_true, Bool.true_eq_false, false_implies, implies_true, forall_const, true_implies, true_and, and_true, and_self, true_or, or_true, false_or, or_false, Value.category, List.length_cons, List.length_nil, Option.toList_some, Option.toList_none, List.cons_append, List.nil_append, List.append_nil, Prod.mk.injEq, Nat.add_zero, Nat.zero_add, Nat.reduceAdd, Nat.reduceSub, Nat.reduceEqDiff, Nat.reduceLeDiff, Nat.reduceLT, Nat.le_refl, beq_self_eq_true, Nat.reduceBEq, ne_eq, not_true_eq_false, not_false_eq_true, Int32.reduceAdd, Int32.reduceSub, Int32.reduceMul, Int32.reduceLE, Int32.reduceLT, Int32.reduceToNatClampNeg, b01_0, b01_1, ne_2_0, ne_3_0, ne_4_0, ne_5_0, ne_6_0, ne_m1_0, ne_m2_0, b01_01, b01_n, lt_m2, lt_m1, le_m2, le_m1, Classical.not_not, Bool.or_false, Bool.false_or, Bool.true_or, Bool.or_true, j_CP_comesAt_0, b_CP_comesAt_0, j_CP_comesAt_10, b_CP_comesAt_10, j_CP_comesAt_38, b_CP_comesAt_38, j_CP_comesAt_39, b_CP_comesAt_39, an_0, an_1, cl_1, ne_0_1, ne_0_m1, ne_0_m2, ne_1_0, ne_1_m1, ne_1_m2, ne_m1_0, ne_m1_1, ne_m1_m2, ne_m2_0, ne_m2_1, ne_m2_m1, pp_0_7, pp_0_9, sh_0, sh_15, sh_37, vi_1]
    refine mid_i ?_
    refine c_Mod_comesAt (iv_n6 b0) (iv_n b0) (iv_01 b0) ?_ ?_ ?_
    · intro z' k' e
      rw [iv_sw0 b0 hn] at e
      exact absurd e (by decide +kernel)
    · intro z' e
      rw [iv_sw0 b0 hn] at e
      exact absurd e (by decide +kernel)
    · intro _
      rw [iv_sw0 b0 hn]
      exact fin_i rfl (iv_rn h0 n14)
end Pra
