section Pr6
variable {g : cp_G} {d : Nat} {I M N : cp_I} {J : cp_J} {Q : cp_QT} {t u r x n s m : Nat}
theorem row_upd {s' : Nat} {ps ps' : Int32} (h : rowR I t 49 0 s m ps) (e4 : ∀ j, N (t + 4) j = I (t + 4) j) (ek : ∀ k, k < 36 ∨ k = 37 → N 49 k = I 49 k) (n36 : N 49 36 = nI s') (n38 : N 49 38 = ps') : rowR N t 49 0 s' m ps' := by
  obtain ⟨h1, h2, h3, h4⟩ := h
  have ec : ctm N t = ctm I t := by funext m' a b; unfold ctm; rw [e4]
  refine ⟨fun a b ha hb => ?_, ?_, ?_, ?_⟩
  · rw [Nat.zero_add, ek _ (by omega), ec, ← h1 a b ha hb, Nat.zero_add]
  · exact n36
  · rw [ek _ (by omega)]
    exact h3
  · exact n38
theorem stk_t {p q : Nat} (hM : stF (kpM I p q) M) (ht : tk t) (j : Nat) : M (t + 4) j = I (t + 4) j := by
  have := wa_ne (wa_t ht (show 4 ≤ 9 by omega))
  exact stk_o hM (by omega) (by omega)
theorem nteg_o {q a j : Nat} (h : ¬ a = 50) (h' : ¬ a = 44) : nte (gd M) q a j = M a j := by rw [nte_o h (by omega), gd_o h']
theorem pr_come {bb : Int32} (h : Iv I t u) : PR g d m_CP_come m_Mod_come [.int bb] I J t u r x := by
  obtain ⟨⟨n, s, m, h0⟩, -, -⟩ := h
  have hB := h0.1
  have b0 := (iv_rf h0 1).1
  have b1 := (iv_rf h0 0).1
  have b5 := (iv_rf h0 5).1
  have ht := iv_tk hB
  obtain ⟨p, q, qi, hf0⟩ := (iv_rf h0 0).2.1
  have hf : hiF (rfu I 0) t n p q qi := hf0
  have hq := hf.2.1
  have u0 : I 44 20 = nI q := by
    have := hf.2.2.2.2.2.1
    rw [rfu_o (by omega)] at this
    exact this
  unfold PR
  refine MW.of ok_CP_come (Nat.le_of_ble_eq_true rfl) ?_
  refine cp_run 40 (fun _ => false) ck_CP_come ?_
  simp only [cp_vc, cp_vs, cp_jm, cp_ent_en, cp_en_int, cp_en_ref, cp_en_ret, cp_en_long, cp_en_nil, cp_s1_at, cp_s2_at, cp_nl_int, cp_nl_ref, cp_nl_long, cp_nl_none, cp_pop_0, cp_pop_s, reduceIte, if_true, if_false, Bool.false_eq_true, Bool.true_eq_false, false_implies, implies_true, forall_const, true_implies, true_and, and_true, and_self, true_or, or_true, false_or, or_false, Value.category, List.length_cons, List.length_nil, Option.toList_some, Option.toList_none, List.cons_append, List.nil_append, List.append_nil, Prod.mk.injEq, Nat.add_zero, Nat.zero_add, Nat.reduceAdd, Nat.reduceSub, Nat.reduceEqDiff, Nat.reduceLeDiff, Nat.reduceLT, Nat.le_refl, beq_self_eq_true, Nat.reduceBEq, ne_eq, not_true_eq_false, not_false_eq_true, Int32.reduceAdd, Int32.reduceSub, Int32.reduceMul, Int32.reduceLE, Int32.reduceLT, Int32.reduceToNatClampNeg, b01_0, b01_1, ne_2_0, ne_3_0, ne_4_0, ne_5_0, ne_6_0, ne_m1_0, ne_m2_0, b01_01, b01_n, lt_m2, lt_m1, le_m2, le_m1, Classical.not_not, j_CP_come_0, b_CP_come_0, j_CP_come_17, b_CP_come_17, j_CP_come_18, b_CP_come_18, an_0, an_1, cl_0, ne_0_1, ne_0_m1, ne_1_0, ne_1_m1, ne_m1_0, ne_m1_1, sh_0, vi_0]
  refine c_CP_isBather (n := n) (iv_tk hB) (iv_n6 hB) (iv_cn hB) ?_ ?_
  · intro b hb hbb
    subst hbb
    have h6 := iv_n6 hB
    simp only [cp_kk, cp_vc, cp_vs, cp_jm, cp_ent_en, cp_en_int, cp_en_ref, cp_en_ret, cp_en_long, cp_en_nil, cp_s1_at, cp_s2_at, cp_nl_int, cp_nl_ref, cp_nl_long, cp_nl_none, cp_pop_0, cp_pop_s, reduceIte, if_true, if_false, Bool.false_eq_true, Bool.true_eq_false, false_implies, implies_true, forall_const, true_implies, true_and, and_true, and_self, true_or, or_true, false_or, or_false, Value.category, List.length_cons, List.length_nil, Option.toList_some, Option.toList_none, List.cons_append, List.nil_append, List.append_nil, Prod.mk.injEq, Nat.add_zero, Nat.zero_add, Nat.reduceAdd, Nat.reduceSub, Nat.reduceEqDiff, Nat.reduceLeDiff, Nat.reduceLT, Nat.le_refl, beq_self_eq_true, Nat.reduceBEq, ne_eq, not_true_eq_false, not_false_eq_true, Int32.reduceAdd, Int32.reduceSub, Int32.reduceMul, Int32.reduceLE, Int32.reduceLT, Int32.reduceToNatClampNeg, b01_0, b01_1, ne_2_0, ne_3_0, ne_4_0, ne_5_0, ne_6_0, ne_m1_0, ne_m2_0, b01_01, b01_n, lt_m2, lt_m1, le_m2, le_m1, Classical.not_not, Bool.or_false, Bool.false_or, Bool.true_or, Bool.or_true, j_CP_come_0, b_CP_come_0, j_CP_come_17, b_CP_come_17, j_CP_come_18, b_CP_come_18, an_0, an_1, cl_0, ne_0_1, ne_0_m1, ne_1_0, ne_1_m1, ne_m1_0, ne_m1_1, sh_0, vi_0]
    refine c_CP_turn b1 hb hf ?_ ?_
    · intro hc
      have hbt : s.testBit b = true := by
        cases e : s.testBit b
        · first | rfl | (rw [e] at hc; exact absurd rfl hc)
        · first | rfl | (rw [e] at hc; exact absurd rfl hc)
      simp only [cp_kk, cp_vc, cp_vs, cp_jm, cp_ent_en, cp_en_int, cp_en_ref, cp_en_ret, cp_en_long, cp_en_nil, cp_s1_at, cp_s2_at, cp_nl_int, cp_nl_ref, cp_nl_long, cp_nl_none, cp_pop_0, cp_pop_s, reduceIte, if_true, if_false, Bool.false_eq_true, Bool.true_eq_false, false_implies, implies_true, forall_const, true_implies, true_and, and_true, and_self, true_or, or_true, false_or, or_false, Value.category, List.length_cons, List.length_nil, Option.toList_some, Option.toList_none, List.cons_append, List.nil_append, List.append_nil, Prod.mk.injEq, Nat.add_zero, Nat.zero_add, Nat.reduceAdd, Nat.reduceSub, Nat.reduceEqDiff, Nat.reduceLeDiff, Nat.reduceLT, Nat.le_refl, beq_self_eq_true, Nat.reduceBEq, ne_eq, not_true_eq_false, not_false_eq_true, Int32.reduceAdd, Int32.reduceSub, Int32.reduceMul, Int32.reduceLE, Int32.reduceLT, Int32.reduceToNatClampNeg, b01_0, b01_1, ne_2_0, ne_3_0, ne_4_0, ne_5_0, ne_6_0, ne_m1_0, ne_m2_0, b01_01, b01_n, lt_m2, lt_m1, le_m2, le_m1, Classical.not_not, Bool.or_false, Bool.false_or, Bool.true_or, Bool.or_true, j_CP_come_0, b_CP_come_0, j_CP_come_17, b_CP_come_17, j_CP_come_18, b_CP_come_18, an_0, an_1, cl_0, ne_0_1, ne_0_m1, ne_1_0, ne_1_m1, ne_m1_0, ne_m1_1, sh_0, vi_0]
      rw [show rfu (rfu I 0) 5 = rfu I 5 from rfu_rfu]
      refine mid_i ?_
      refine c_Mod_come (iv_n6 b5) (iv_n b5) (iv_64 b5) (iv_st b5) hq (by rw [rfu_o (by omega)]; exact u0) (b := b) (fun _ => ⟨rfl, hb⟩) ?_ ?_ ?_
      · intro _ e
        rw [hbt] at e
        cases e
      · intro _ _
        exact fin_i rfl (iv_rn h0 n54)
      · intro e
        exact absurd (iv_isB b5 hb) e
    · intro hc M hM m1 m2 m3 mB
      have hbt : s.testBit b = false := by
        cases e : s.testBit b
        · first | rfl | (rw [e] at hc; exact absurd hc (by decide +kernel))
        · first | rfl | (rw [e] at hc; exact absurd hc (by decide +kernel))
      simp only [cp_kk, cp_vc, cp_vs, cp_jm, cp_ent_en, cp_en_int, cp_en_ref, cp_en_ret, cp_en_long, cp_en_nil, cp_s1_at, cp_s2_at, cp_nl_int, cp_nl_ref, cp_nl_long, cp_nl_none, cp_pop_0, cp_pop_s, reduceIte, if_true, if_false, Bool.false_eq_true, Bool.true_eq_false, false_implies, implies_true, forall_const, true_implies, true_and, and_true, and_self, true_or, or_true, false_or, or_false, Value.category, List.length_cons, List.length_nil, Option.toList_some, Option.toList_none, List.cons_append, List.nil_append, List.append_nil, Prod.mk.injEq, Nat.add_zero, Nat.zero_add, Nat.reduceAdd, Nat.reduceSub, Nat.reduceEqDiff, Nat.reduceLeDiff, Nat.reduceLT, Nat.le_refl, beq_self_eq_true, Nat.reduceBEq, ne_eq, not_true_eq_false, not_false_eq_true, Int32.reduceAdd, Int32.reduceSub, Int32.reduceMul, Int32.reduceLE, Int32.reduceLT, Int32.reduceToNatClampNeg, b01_0, b01_1, ne_2_0, ne_3_0, ne_4_0, ne_5_0, ne_6_0, ne_m1_0, ne_m2_0, b01_01, b01_n, lt_m2, lt_m1, le_m2, le_m1, Classical.not_not, Bool.or_false, Bool.false_or, Bool.true_or, Bool.or_true, j_CP_come_0, b_CP_come_0, j_CP_come_17, b_CP_come_17, j_CP_come_18, b_CP_come_18, an_0, an_1, cl_0, ne_0_1, ne_0_m1, ne_1_0, ne_1_m1, ne_m1_0, ne_m1_1, sh_0, vi_0]
      refine mid_i ?_
      have M47 : ∀ j, M 47 j = rfu I 0 47 j := fun j => stk_o hM (by omega) (by omega)
      have M49 : ∀ j, M 49 j = rfu I 0 49 j := fun j => stk_o hM (by omega) (by omega)
      have M44 : ∀ j, M 44 j = rfu I 0 44 j := fun j => stk_o hM (by omega) (by omega)
      have hn' : M 47 4 = nI n := by rw [M47]; exact iv_n b1
      have isb : isB M (nI b) := by
        unfold isB
        rw [M44, M47]
        exact iv_isB b1 hb
      have hN := iv_step (N := chm (gd M) q s b) (iv_rf h0 0) hf hM m1 m2 mB (by omega) (xor_lt (iv_s b1) hb) (iv_mOK b1) (fun a j ha => by unfold chm; rw [cp_u_at, if_neg (by omega)]) (by
        refine row_upd (iv_row b1) (fun j => ?_) (fun k hk => ?_) ?_ ?_
        · have := wa_ne (wa_t ht (show 4 ≤ 9 by omega))
          unfold chm
          rw [cp_u_at, if_neg (by omega), nteg_o (by omega) (by omega)]
          exact stk_t hM ht j
        · unfold chm
          rw [cp_u_at, if_neg (by omega), nteg_o (by omega) (by omega), M49]
        · unfold chm
          rw [cp_u_at, if_pos ⟨rfl, rfl⟩]
        · unfold chm
          rw [cp_u_at, if_neg (by omega), cp_u_at, if_neg (by omega), nteg_o (by omega) (by omega), nteg_o (by omega) (by omega), m3, M49]
          exact (iv_row b1).2.2.2) rfu_2
      refine c_Mod_come (iv_n6 b1) hn' (iv_64 b1) (by rw [M49]; exact iv_st b1) hq (by rw [M44]; exact hf.2.2.2.2.2.1) (b := b) (fun _ => ⟨rfl, hb⟩) ?_ ?_ ?_
      · intro _ _
        refine fin_i ?_ (iv_of hN)
        rw [← iv_cw hN.1.1 (xor_lt (iv_s b1) hb)]
        unfold cw chm
        rw [cp_u_at, if_neg (by omega), nteg_o (by omega) (by omega)]
      · intro _ e
        rw [hbt] at e
        cases e
      · intro e
        exact absurd isb e
  · intro hb
    simp only [cp_kk, cp_vc, cp_vs, cp_jm, cp_ent_en, cp_en_int, cp_en_ref, cp_en_ret, cp_en_long, cp_en_nil, cp_s1_at, cp_s2_at, cp_nl_int, cp_nl_ref, cp_nl_long, cp_nl_none, cp_pop_0, cp_pop_s, reduceIte, if_true, if_false, Bool.false_eq_true, Bool.true_eq_false, false_implies, implies_true, forall_const, true_implies, true_and, and_true, and_self, true_or, or_true, false_or, or_false, Value.category, List.length_cons, List.length_nil, Option.toList_some, Option.toList_none, List.cons_append, List.nil_append, List.append_nil, Prod.mk.injEq, Nat.add_zero, Nat.zero_add, Nat.reduceAdd, Nat.reduceSub, Nat.reduceEqDiff, Nat.reduceLeDiff, Nat.reduceLT, Nat.le_refl, beq_self_eq_true, Nat.reduceBEq, ne_eq, not_true_eq_false, not_false_eq_true, Int32.reduceAdd, Int32.reduceSub, Int32.reduceMul, Int32.reduceLE, Int32.reduceLT, Int32.reduceToNatClampNeg, b01_0, b01_1, ne_2_0, ne_3_0, ne_4_0, ne_5_0, ne_6_0, ne_m1_0, ne_m2_0, b01_01, b01_n, lt_m2, lt_m1, le_m2, le_m1, Classical.not_not, Bool.or_false, Bool.false_or, Bool.true_or, Bool.or_true, j_CP_come_0, b_CP_come_0, j_CP_come_17, b_CP_come_17, j_CP_come_18, b_CP_come_18, an_0, an_1, cl_0, ne_0_1, ne_0_m1, ne_1_0, ne_1_m1, ne_m1_0, ne_m1_1, sh_0, vi_0]
    refine mid_i ?_
    refine c_Mod_come (iv_n6 b0) (iv_n b0) (iv_64 b0) (iv_st b0) hq (by rw [rfu_o (by omega)]; exact u0) (b := 0) (fun e => absurd e (iv_noB b0 hb)) ?_ ?_ ?_
    · intro e
      exact absurd e (iv_noB b0 hb)
    · intro e
      exact absurd e (iv_noB b0 hb)
    · intro _
      exact fin_i rfl (iv_rn h0 n14)
theorem pr_get {bb : Int32} (h : Iv I t u) : PR g d m_CP_get m_Mod_get [.int bb] I J t u r x := by
  obtain ⟨⟨n, s, m, h0⟩, -, -⟩ := h
  have hB := h0.1
  have b0 := (iv_rf h0 1).1
  have b1 := (iv_rf h0 0).1
  have b5 := (iv_rf h0 5).1
  have ht := iv_tk hB
  obtain ⟨p, q, qi, hf0⟩ := (iv_rf h0 0).2.1
  have hf : hiF (rfu I 0) t n p q qi := hf0
  have hq := hf.2.1
  have u0 : I 44 20 = nI q := by
    have := hf.2.2.2.2.2.1
    rw [rfu_o (by omega)] at this
    exact this
  unfold PR
  refine MW.of ok_CP_get (Nat.le_of_ble_eq_true rfl) ?_
  refine cp_run 40 (fun _ => false) ck_CP_get ?_
  simp only [cp_vc, cp_vs, cp_jm, cp_ent_en, cp_en_int, cp_en_ref, cp_en_ret, cp_en_long, cp_en_nil, cp_s1_at, cp_s2_at, cp_nl_int, cp_nl_ref, cp_nl_long, cp_nl_none, cp_pop_0, cp_pop_s, reduceIte, if_true, if_false, Bool.false_eq_true, Bool.true_eq_false, false_implies, implies_true, forall_const, true_implies, true_and, and_true, and_self, true_or, or_true, false_or, or_false, Value.category, List.length_cons, List.length_nil, Option.toList_some, Option.toList_none, List.cons_append, List.nil_append, List.append_nil, Prod.mk.injEq, Nat.add_zero, Nat.zero_add, Nat.reduceAdd, Nat.reduceSub, Nat.reduceEqDiff, Nat.reduceLeDiff, Nat.reduceLT, Nat.le_refl, beq_self_eq_true, Nat.reduceBEq, ne_eq, not_true_eq_false, not_false_eq_true, Int32.reduceAdd, Int32.reduceSub, Int32.reduceMul, Int32.reduceLE, Int32.reduceLT, Int32.reduceToNatClampNeg, b01_0, b01_1, ne_2_0, ne_3_0, ne_4_0, ne_5_0, ne_6_0, ne_m1_0, ne_m2_0, b01_01, b01_n, lt_m2, lt_m1, le_m2, le_m1, Classical.not_not, j_CP_get_0, b_CP_get_0, j_CP_get_17, b_CP_get_17, j_CP_get_18, b_CP_get_18, an_0, an_1, cl_1, ne_0_1, ne_0_m1, ne_1_0, ne_1_m1, ne_m1_0, ne_m1_1, sh_0, vi_1]
  refine c_CP_isBather (n := n) (iv_tk hB) (iv_n6 hB) (iv_cn hB) ?_ ?_
  · intro b hb hbb
    subst hbb
    have h6 := iv_n6 hB
    simp only [cp_kk, cp_vc, cp_vs, cp_jm, cp_ent_en, cp_en_int, cp_en_ref, cp_en_ret, cp_en_long, cp_en_nil, cp_s1_at, cp_s2_at, cp_nl_int, cp_nl_ref, cp_nl_long, cp_nl_none, cp_pop_0, cp_pop_s, reduceIte, if_true, if_false, Bool.false_eq_true, Bool.true_eq_false, false_implies, implies_true, forall_const, true_implies, true_and, and_true, and_self, true_or, or_true, false_or, or_false, Value.category, List.length_cons, List.length_nil, Option.toList_some, Option.toList_none, List.cons_append, List.nil_append, List.append_nil, Prod.mk.injEq, Nat.add_zero, Nat.zero_add, Nat.reduceAdd, Nat.reduceSub, Nat.reduceEqDiff, Nat.reduceLeDiff, Nat.reduceLT, Nat.le_refl, beq_self_eq_true, Nat.reduceBEq, ne_eq, not_true_eq_false, not_false_eq_true, Int32.reduceAdd, Int32.reduceSub, Int32.reduceMul, Int32.reduceLE, Int32.reduceLT, Int32.reduceToNatClampNeg, b01_0, b01_1, ne_2_0, ne_3_0, ne_4_0, ne_5_0, ne_6_0, ne_m1_0, ne_m2_0, b01_01, b01_n, lt_m2, lt_m1, le_m2, le_m1, Classical.not_not, Bool.or_false, Bool.false_or, Bool.true_or, Bool.or_true, j_CP_get_0, b_CP_get_0, j_CP_get_17, b_CP_get_17, j_CP_get_18, b_CP_get_18, an_0, an_1, cl_1, ne_0_1, ne_0_m1, ne_1_0, ne_1_m1, ne_m1_0, ne_m1_1, sh_0, vi_1]
    refine c_CP_turn b1 hb hf ?_ ?_
    · intro hc
      have hbt : s.testBit b = false := by
        cases e : s.testBit b
        · first | rfl | (rw [e] at hc; exact absurd rfl hc)
        · first | rfl | (rw [e] at hc; exact absurd rfl hc)
      simp only [cp_kk, cp_vc, cp_vs, cp_jm, cp_ent_en, cp_en_int, cp_en_ref, cp_en_ret, cp_en_long, cp_en_nil, cp_s1_at, cp_s2_at, cp_nl_int, cp_nl_ref, cp_nl_long, cp_nl_none, cp_pop_0, cp_pop_s, reduceIte, if_true, if_false, Bool.false_eq_true, Bool.true_eq_false, false_implies, implies_true, forall_const, true_implies, true_and, and_true, and_self, true_or, or_true, false_or, or_false, Value.category, List.length_cons, List.length_nil, Option.toList_some, Option.toList_none, List.cons_append, List.nil_append, List.append_nil, Prod.mk.injEq, Nat.add_zero, Nat.zero_add, Nat.reduceAdd, Nat.reduceSub, Nat.reduceEqDiff, Nat.reduceLeDiff, Nat.reduceLT, Nat.le_refl, beq_self_eq_true, Nat.reduceBEq, ne_eq, not_true_eq_false, not_false_eq_true, Int32.reduceAdd, Int32.reduceSub, Int32.reduceMul, Int32.reduceLE, Int32.reduceLT, Int32.reduceToNatClampNeg, b01_0, b01_1, ne_2_0, ne_3_0, ne_4_0, ne_5_0, ne_6_0, ne_m1_0, ne_m2_0, b01_01, b01_n, lt_m2, lt_m1, le_m2, le_m1, Classical.not_not, Bool.or_false, Bool.false_or, Bool.true_or, Bool.or_true, j_CP_get_0, b_CP_get_0, j_CP_get_17, b_CP_get_17, j_CP_get_18, b_CP_get_18, an_0, an_1, cl_1, ne_0_1, ne_0_m1, ne_1_0, ne_1_m1, ne_m1_0, ne_m1_1, sh_0, vi_1]
      rw [show rfu (rfu I 0) 5 = rfu I 5 from rfu_rfu]
      refine mid_i ?_
      refine c_Mod_get (iv_n6 b5) (iv_n b5) (iv_64 b5) (iv_st b5) hq (by rw [rfu_o (by omega)]; exact u0) (b := b) (fun _ => ⟨rfl, hb⟩) ?_ ?_ ?_
      · intro _ e
        rw [hbt] at e
        cases e
      · intro _ _
        exact fin_i rfl (iv_rn h0 n54)
      · intro e
        exact absurd (iv_isB b5 hb) e
    · intro hc M hM m1 m2 m3 mB
      have hbt : s.testBit b = true := by
        cases e : s.testBit b
        · first | rfl | (rw [e] at hc; exact absurd hc (by decide +kernel))
        · first | rfl | (rw [e] at hc; exact absurd hc (by decide +kernel))
      simp only [cp_kk, cp_vc, cp_vs, cp_jm, cp_ent_en, cp_en_int, cp_en_ref, cp_en_ret, cp_en_long, cp_en_nil, cp_s1_at, cp_s2_at, cp_nl_int, cp_nl_ref, cp_nl_long, cp_nl_none, cp_pop_0, cp_pop_s, reduceIte, if_true, if_false, Bool.false_eq_true, Bool.true_eq_false, false_implies, implies_true, forall_const, true_implies, true_and, and_true, and_self, true_or, or_true, false_or, or_false, Value.category, List.length_cons, List.length_nil, Option.toList_some, Option.toList_none, List.cons_append, List.nil_append, List.append_nil, Prod.mk.injEq, Nat.add_zero, Nat.zero_add, Nat.reduceAdd, Nat.reduceSub, Nat.reduceEqDiff, Nat.reduceLeDiff, Nat.reduceLT, Nat.le_refl, beq_self_eq_true, Nat.reduceBEq, ne_eq, not_true_eq_false, not_false_eq_true, Int32.reduceAdd, Int32.reduceSub, Int32.reduceMul, Int32.reduceLE, Int32.reduceLT, Int32.reduceToNatClampNeg, b01_0, b01_1, ne_2_0, ne_3_0, ne_4_0, ne_5_0, ne_6_0, ne_m1_0, ne_m2_0, b01_01, b01_n, lt_m2, lt_m1, le_m2, le_m1, Classical.not_not, Bool.or_false, Bool.false_or, Bool.true_or, Bool.or_true, j_CP_get_0, b_CP_get_0, j_CP_get_17, b_CP_get_17, j_CP_get_18, b_CP_get_18, an_0, an_1, cl_1, ne_0_1, ne_0_m1, ne_1_0, ne_1_m1, ne_m1_0, ne_m1_1, sh_0, vi_1]
      refine mid_i ?_
      have M47 : ∀ j, M 47 j = rfu I 0 47 j := fun j => stk_o hM (by omega) (by omega)
      have M49 : ∀ j, M 49 j = rfu I 0 49 j := fun j => stk_o hM (by omega) (by omega)
      have M44 : ∀ j, M 44 j = rfu I 0 44 j := fun j => stk_o hM (by omega) (by omega)
      have hn' : M 47 4 = nI n := by rw [M47]; exact iv_n b1
      have isb : isB M (nI b) := by
        unfold isB
        rw [M44, M47]
        exact iv_isB b1 hb
      have hN := iv_step (N := chm (gd M) q s b) (iv_rf h0 0) hf hM m1 m2 mB (by omega) (xor_lt (iv_s b1) hb) (iv_mOK b1) (fun a j ha => by unfold chm; rw [cp_u_at, if_neg (by omega)]) (by
        refine row_upd (iv_row b1) (fun j => ?_) (fun k hk => ?_) ?_ ?_
        · have := wa_ne (wa_t ht (show 4 ≤ 9 by omega))
          unfold chm
          rw [cp_u_at, if_neg (by omega), nteg_o (by omega) (by omega)]
          exact stk_t hM ht j
        · unfold chm
          rw [cp_u_at, if_neg (by omega), nteg_o (by omega) (by omega), M49]
        · unfold chm
          rw [cp_u_at, if_pos ⟨rfl, rfl⟩]
        · unfold chm
          rw [cp_u_at, if_neg (by omega), cp_u_at, if_neg (by omega), nteg_o (by omega) (by omega), nteg_o (by omega) (by omega), m3, M49]
          exact (iv_row b1).2.2.2) rfu_2
      refine c_Mod_get (iv_n6 b1) hn' (iv_64 b1) (by rw [M49]; exact iv_st b1) hq (by rw [M44]; exact hf.2.2.2.2.2.1) (b := b) (fun _ => ⟨rfl, hb⟩) ?_ ?_ ?_
      · intro _ _
        refine fin_i ?_ (iv_of hN)
        rw [← iv_cw hN.1.1 (xor_lt (iv_s b1) hb)]
        unfold cw chm
        rw [cp_u_at, if_neg (by omega), nteg_o (by omega) (by omega)]
      · intro _ e
        rw [hbt] at e
        cases e
      · intro e
        exact absurd isb e
  · intro hb
    simp only [cp_kk, cp_vc, cp_vs, cp_jm, cp_ent_en, cp_en_int, cp_en_ref, cp_en_ret, cp_en_long, cp_en_nil, cp_s1_at, cp_s2_at, cp_nl_int, cp_nl_ref, cp_nl_long, cp_nl_none, cp_pop_0, cp_pop_s, reduceIte, if_true, if_false, Bool.false_eq_true, Bool.true_eq_false, false_implies, implies_true, forall_const, true_implies, true_and, and_true, and_self, true_or, or_true, false_or, or_false, Value.category, List.length_cons, List.length_nil, Option.toList_some, Option.toList_none, List.cons_append, List.nil_append, List.append_nil, Prod.mk.injEq, Nat.add_zero, Nat.zero_add, Nat.reduceAdd, Nat.reduceSub, Nat.reduceEqDiff, Nat.reduceLeDiff, Nat.reduceLT, Nat.le_refl, beq_self_eq_true, Nat.reduceBEq, ne_eq, not_true_eq_false, not_false_eq_true, Int32.reduceAdd, Int32.reduceSub, Int32.reduceMul, Int32.reduceLE, Int32.reduceLT, Int32.reduceToNatClampNeg, b01_0, b01_1, ne_2_0, ne_3_0, ne_4_0, ne_5_0, ne_6_0, ne_m1_0, ne_m2_0, b01_01, b01_n, lt_m2, lt_m1, le_m2, le_m1, Classical.not_not, Bool.or_false, Bool.false_or, Bool.true_or, Bool.or_true, j_CP_get_0, b_CP_get_0, j_CP_get_17, b_CP_get_17, j_CP_get_18, b_CP_get_18, an_0, an_1, cl_1, ne_0_1, ne_0_m1, ne_1_0, ne_1_m1, ne_m1_0, ne_m1_1, sh_0, vi_1]
    refine mid_i ?_
    refine c_Mod_get (iv_n6 b0) (iv_n b0) (iv_64 b0) (iv_st b0) hq (by rw [rfu_o (by omega)]; exact u0) (b := 0) (fun e => absurd e (iv_noB b0 hb)) ?_ ?_ ?_
    · intro e
      exact absurd e (iv_noB b0 hb)
    · intro e
      exact absurd e (iv_noB b0 hb)
    · intro _
      exact fin_i rfl (iv_rn h0 n14)
theorem out_xor {a b : Nat} (ha : a < 64) (hb : b < 64) (h : b &&& a = b) : a ^^^ (a &&& (63 - b)) = b := by
  have key : ∀ a : Nat, a < 64 → ∀ b : Nat, b < 64 → b &&& a = b → a ^^^ (a &&& (63 - b)) = b := by decide +kernel
  exact key a ha b hb h
theorem pr_minute (h : Iv I t u) : PR g d m_CP_minute m_Mod_minute [] I J t u r x := by
  obtain ⟨⟨n, s, m, h0⟩, -, -⟩ := h
  have hB := h0.1
  have b0 := (iv_rf h0 1).1
  have b1 := (iv_rf h0 0).1
  have b5 := (iv_rf h0 5).1
  have ht := iv_tk hB
  obtain ⟨p, q, qi, hf0⟩ := (iv_rf h0 0).2.1
  have hf : hiF (rfu I 0) t n p q qi := hf0
  have hq := hf.2.1
  have u0 : I 44 20 = nI q := by
    have := hf.2.2.2.2.2.1
    rw [rfu_o (by omega)] at this
    exact this
  unfold PR
  refine MW.of ok_CP_minute (Nat.le_of_ble_eq_true rfl) ?_
  refine cp_run 60 (fun _ => false) ck_CP_minute ?_
  simp only [cp_vc, cp_vs, cp_jm, cp_ent_en, cp_en_int, cp_en_ref, cp_en_ret, cp_en_long, cp_en_nil, cp_s1_at, cp_s2_at, cp_nl_int, cp_nl_ref, cp_nl_long, cp_nl_none, cp_pop_0, cp_pop_s, reduceIte, if_true, if_false, Bool.false_eq_true, Bool.true_eq_false, false_implies, implies_true, forall_const, true_implies, true_and, and_true, and_self, true_or, or_true, false_or, or_false, Value.category, List.length_cons, List.length_nil, Option.toList_some, Option.toList_none, List.cons_append, List.nil_append, List.append_nil, Prod.mk.injEq, Nat.add_zero, Nat.zero_add, Nat.reduceAdd, Nat.reduceSub, Nat.reduceEqDiff, Nat.reduceLeDiff, Nat.reduceLT, Nat.le_refl, beq_self_eq_true, Nat.reduceBEq, ne_eq, not_true_eq_false, not_false_eq_true, Int32.reduceAdd, Int32.reduceSub, Int32.reduceMul, Int32.reduceLE, Int32.reduceLT, Int32.reduceToNatClampNeg, b01_0, b01_1, ne_2_0, ne_3_0, ne_4_0, ne_5_0, ne_6_0, ne_m1_0, ne_m2_0, b01_01, b01_n, lt_m2, lt_m1, le_m2, le_m1, Classical.not_not, j_CP_minute_0, b_CP_minute_0, j_CP_minute_9, b_CP_minute_9, j_CP_minute_46, b_CP_minute_46, an_0, an_1, an_5, cl_1, cl_5, ne_0_1, ne_0_5, ne_0_m1, ne_1_0, ne_1_5, ne_1_m1, ne_5_0, ne_5_1, ne_5_m1, ne_m1_0, ne_m1_1, ne_m1_5, pp_0_7, pp_0_8, sh_0, sh_15, sh_30, vi_1, vi_5]
  refine c_CP_isTold (n := n) (iv_tk hB) (iv_n6 hB) (iv_cn hB) ?_ ?_
  · intro hn
    simp only [cp_kk, cp_vc, cp_vs, cp_jm, cp_ent_en, cp_en_int, cp_en_ref, cp_en_ret, cp_en_long, cp_en_nil, cp_s1_at, cp_s2_at, cp_nl_int, cp_nl_ref, cp_nl_long, cp_nl_none, cp_pop_0, cp_pop_s, reduceIte, if_true, if_false, Bool.false_eq_true, Bool.true_eq_false, false_implies, implies_true, forall_const, true_implies, true_and, and_true, and_self, true_or, or_true, false_or, or_false, Value.category, List.length_cons, List.length_nil, Option.toList_some, Option.toList_none, List.cons_append, List.nil_append, List.append_nil, Prod.mk.injEq, Nat.add_zero, Nat.zero_add, Nat.reduceAdd, Nat.reduceSub, Nat.reduceEqDiff, Nat.reduceLeDiff, Nat.reduceLT, Nat.le_refl, beq_self_eq_true, Nat.reduceBEq, ne_eq, not_true_eq_false, not_false_eq_true, Int32.reduceAdd, Int32.reduceSub, Int32.reduceMul, Int32.reduceLE, Int32.reduceLT, Int32.reduceToNatClampNeg, b01_0, b01_1, ne_2_0, ne_3_0, ne_4_0, ne_5_0, ne_6_0, ne_m1_0, ne_m2_0, b01_01, b01_n, lt_m2, lt_m1, le_m2, le_m1, Classical.not_not, Bool.or_false, Bool.false_or, Bool.true_or, Bool.or_true, j_CP_minute_0, b_CP_minute_0, j_CP_minute_9, b_CP_minute_9, j_CP_minute_46, b_CP_minute_46, an_0, an_1, an_5, cl_1, cl_5, ne_0_1, ne_0_5, ne_0_m1, ne_1_0, ne_1_5, ne_1_m1, ne_5_0, ne_5_1, ne_5_m1, ne_m1_0, ne_m1_1, ne_m1_5, pp_0_7, pp_0_8, sh_0, sh_15, sh_30, vi_1, vi_5, iv_in b1]
    refine c_Bath_bearers (iv_cT b1) (iv_64 b1) ?_
    rw [iv_cb b1 (iv_s b1)]
    have hl := rb_lt (rfu I 0) (iv_n6 b1) 49 s
    have hlt : s &&& (63 - rb (rfu I 0) n 49 s) < 64 := Nat.lt_of_le_of_lt Nat.and_le_left (iv_64 b1)
    have e0 := eqN (show s &&& (63 - rb (rfu I 0) n 49 s) < 1000 by omega) (show 0 < 1000 by omega)
    by_cases c : s &&& (63 - rb (rfu I 0) n 49 s) = 0
    · have c' : nI (s &&& (63 - rb (rfu I 0) n 49 s)) = 0 := by rw [c]; rfl
      simp only [cp_kk, cp_vc, cp_vs, cp_jm, cp_ent_en, cp_en_int, cp_en_ref, cp_en_ret, cp_en_long, cp_en_nil, cp_s1_at, cp_s2_at, cp_nl_int, cp_nl_ref, cp_nl_long, cp_nl_none, cp_pop_0, cp_pop_s, reduceIte, if_true, if_false, Bool.false_eq_true, Bool.true_eq_false, false_implies, implies_true, forall_const, true_implies, true_and, and_true, and_self, true_or, or_true, false_or, or_false, Value.category, List.length_cons, List.length_nil, Option.toList_some, Option.toList_none, List.cons_append, List.nil_append, List.append_nil, Prod.mk.injEq, Nat.add_zero, Nat.zero_add, Nat.reduceAdd, Nat.reduceSub, Nat.reduceEqDiff, Nat.reduceLeDiff, Nat.reduceLT, Nat.le_refl, beq_self_eq_true, Nat.reduceBEq, ne_eq, not_true_eq_false, not_false_eq_true, Int32.reduceAdd, Int32.reduceSub, Int32.reduceMul, Int32.reduceLE, Int32.reduceLT, Int32.reduceToNatClampNeg, b01_0, b01_1, ne_2_0, ne_3_0, ne_4_0, ne_5_0, ne_6_0, ne_m1_0, ne_m2_0, b01_01, b01_n, lt_m2, lt_m1, le_m2, le_m1, Classical.not_not, Bool.or_false, Bool.false_or, Bool.true_or, Bool.or_true, j_CP_minute_0, b_CP_minute_0, j_CP_minute_9, b_CP_minute_9, j_CP_minute_46, b_CP_minute_46, an_0, an_1, an_5, cl_1, cl_5, ne_0_1, ne_0_5, ne_0_m1, ne_1_0, ne_1_5, ne_1_m1, ne_5_0, ne_5_1, ne_5_m1, ne_m1_0, ne_m1_1, ne_m1_5, pp_0_7, pp_0_8, sh_0, sh_15, sh_30, vi_1, vi_5, iv_in b1, andn2_nI (iv_64 b1) hl, c']
      refine c_CP_refuse ?_
      simp only [cp_kk, cp_vc, cp_vs, cp_jm, cp_ent_en, cp_en_int, cp_en_ref, cp_en_ret, cp_en_long, cp_en_nil, cp_s1_at, cp_s2_at, cp_nl_int, cp_nl_ref, cp_nl_long, cp_nl_none, cp_pop_0, cp_pop_s, reduceIte, if_true, if_false, Bool.false_eq_true, Bool.true_eq_false, false_implies, implies_true, forall_const, true_implies, true_and, and_true, and_self, true_or, or_true, false_or, or_false, Value.category, List.length_cons, List.length_nil, Option.toList_some, Option.toList_none, List.cons_append, List.nil_append, List.append_nil, Prod.mk.injEq, Nat.add_zero, Nat.zero_add, Nat.reduceAdd, Nat.reduceSub, Nat.reduceEqDiff, Nat.reduceLeDiff, Nat.reduceLT, Nat.le_refl, beq_self_eq_true, Nat.reduceBEq, ne_eq, not_true_eq_false, not_false_eq_true, Int32.reduceAdd, Int32.reduceSub, Int32.reduceMul, Int32.reduceLE, Int32.reduceLT, Int32.reduceToNatClampNeg, b01_0, b01_1, ne_2_0, ne_3_0, ne_4_0, ne_5_0, ne_6_0, ne_m1_0, ne_m2_0, b01_01, b01_n, lt_m2, lt_m1, le_m2, le_m1, Classical.not_not, Bool.or_false, Bool.false_or, Bool.true_or, Bool.or_true, j_CP_minute_0, b_CP_minute_0, j_CP_minute_9, b_CP_minute_9, j_CP_minute_46, b_CP_minute_46, an_0, an_1, an_5, cl_1, cl_5, ne_0_1, ne_0_5, ne_0_m1, ne_1_0, ne_1_5, ne_1_m1, ne_5_0, ne_5_1, ne_5_m1, ne_m1_0, ne_m1_1, ne_m1_5, pp_0_7, pp_0_8, sh_0, sh_15, sh_30, vi_1, vi_5]
      rw [show rfu (rfu I 0) 5 = rfu I 5 from rfu_rfu]
      refine mid_i ?_
      have c5 : s &&& (63 - rb (rfu I 5) n 49 s) = 0 := by rw [← c]; rfl
      refine c_Mod_minute (iv_n6 b5) (iv_n b5) (iv_64 b5) (iv_st b5) hq (by rw [rfu_o (by omega)]; exact u0) ?_ ?_ ?_
      · intro _ e
        exact absurd c5 e
      · intro _ _
        exact fin_i rfl (iv_rn h0 n54)
      · intro e
        exact absurd e (iv_p1 b5 hn)
    · have c' : ¬ nI (s &&& (63 - rb (rfu I 0) n 49 s)) = 0 := nI_ne0 (by omega) (by omega)
      have kt : ∀ k j, k ≤ 9 → kpM (rfu I 0) p q (t + k) j = rfu I 0 (t + k) j := fun k j hk => by
        have := wa_ne (wa_t ht hk)
        exact kpM_o (by omega)
      have k15 : ∀ j, kpM (rfu I 0) p q 15 j = rfu I 0 15 j := fun j => kpM_o (by omega)
      simp only [cp_kk, cp_vc, cp_vs, cp_jm, cp_ent_en, cp_en_int, cp_en_ref, cp_en_ret, cp_en_long, cp_en_nil, cp_s1_at, cp_s2_at, cp_nl_int, cp_nl_ref, cp_nl_long, cp_nl_none, cp_pop_0, cp_pop_s, reduceIte, if_true, if_false, Bool.false_eq_true, Bool.true_eq_false, false_implies, implies_true, forall_const, true_implies, true_and, and_true, and_self, true_or, or_true, false_or, or_false, Value.category, List.length_cons, List.length_nil, Option.toList_some, Option.toList_none, List.cons_append, List.nil_append, List.append_nil, Prod.mk.injEq, Nat.add_zero, Nat.zero_add, Nat.reduceAdd, Nat.reduceSub, Nat.reduceEqDiff, Nat.reduceLeDiff, Nat.reduceLT, Nat.le_refl, beq_self_eq_true, Nat.reduceBEq, ne_eq, not_true_eq_false, not_false_eq_true, Int32.reduceAdd, Int32.reduceSub, Int32.reduceMul, Int32.reduceLE, Int32.reduceLT, Int32.reduceToNatClampNeg, b01_0, b01_1, ne_2_0, ne_3_0, ne_4_0, ne_5_0, ne_6_0, ne_m1_0, ne_m2_0, b01_01, b01_n, lt_m2, lt_m1, le_m2, le_m1, Classical.not_not, Bool.or_false, Bool.false_or, Bool.true_or, Bool.or_true, j_CP_minute_0, b_CP_minute_0, j_CP_minute_9, b_CP_minute_9, j_CP_minute_46, b_CP_minute_46, an_0, an_1, an_5, cl_1, cl_5, ne_0_1, ne_0_5, ne_0_m1, ne_1_0, ne_1_5, ne_1_m1, ne_5_0, ne_5_1, ne_5_m1, ne_m1_0, ne_m1_1, ne_m1_5, pp_0_7, pp_0_8, sh_0, sh_15, sh_30, vi_1, vi_5, iv_in b1, andn2_nI (iv_64 b1) hl, c']
      refine c_Hist_keep hf.1 hf.2.1 hf.2.2.2.1 hf.2.2.2.2.1 ?_
      simp only [cp_kk, cp_vc, cp_vs, cp_jm, cp_ent_en, cp_en_int, cp_en_ref, cp_en_ret, cp_en_long, cp_en_nil, cp_s1_at, cp_s2_at, cp_nl_int, cp_nl_ref, cp_nl_long, cp_nl_none, cp_pop_0, cp_pop_s, reduceIte, if_true, if_false, Bool.false_eq_true, Bool.true_eq_false, false_implies, implies_true, forall_const, true_implies, true_and, and_true, and_self, true_or, or_true, false_or, or_false, Value.category, List.length_cons, List.length_nil, Option.toList_some, Option.toList_none, List.cons_append, List.nil_append, List.append_nil, Prod.mk.injEq, Nat.add_zero, Nat.zero_add, Nat.reduceAdd, Nat.reduceSub, Nat.reduceEqDiff, Nat.reduceLeDiff, Nat.reduceLT, Nat.le_refl, beq_self_eq_true, Nat.reduceBEq, ne_eq, not_true_eq_false, not_false_eq_true, Int32.reduceAdd, Int32.reduceSub, Int32.reduceMul, Int32.reduceLE, Int32.reduceLT, Int32.reduceToNatClampNeg, b01_0, b01_1, ne_2_0, ne_3_0, ne_4_0, ne_5_0, ne_6_0, ne_m1_0, ne_m2_0, b01_01, b01_n, lt_m2, lt_m1, le_m2, le_m1, Classical.not_not, Bool.or_false, Bool.false_or, Bool.true_or, Bool.or_true, j_CP_minute_0, b_CP_minute_0, j_CP_minute_9, b_CP_minute_9, j_CP_minute_46, b_CP_minute_46, an_0, an_1, an_5, cl_1, cl_5, ne_0_1, ne_0_5, ne_0_m1, ne_1_0, ne_1_5, ne_1_m1, ne_5_0, ne_5_1, ne_5_m1, ne_m1_0, ne_m1_1, ne_m1_5, pp_0_7, pp_0_8, sh_0, sh_15, sh_30, vi_1, vi_5, k15, iv_m b1]
      refine c_Bath_settle (m := m) (m' := m) (cT_o (iv_cT b1) kt) (by rw [k15]; exact iv_m b1) (mOK_lt (iv_mOK b1)) (mOK_lt (iv_mOK b1)) (bOK_o (iv_bOK b1) kt (fun a j h1 h2 => kpM_o (by omega))) ?_
      intro M hM m1 m2 m3 mB
      simp only [cp_kk, cp_vc, cp_vs, cp_jm, cp_ent_en, cp_en_int, cp_en_ref, cp_en_ret, cp_en_long, cp_en_nil, cp_s1_at, cp_s2_at, cp_nl_int, cp_nl_ref, cp_nl_long, cp_nl_none, cp_pop_0, cp_pop_s, reduceIte, if_true, if_false, Bool.false_eq_true, Bool.true_eq_false, false_implies, implies_true, forall_const, true_implies, true_and, and_true, and_self, true_or, or_true, false_or, or_false, Value.category, List.length_cons, List.length_nil, Option.toList_some, Option.toList_none, List.cons_append, List.nil_append, List.append_nil, Prod.mk.injEq, Nat.add_zero, Nat.zero_add, Nat.reduceAdd, Nat.reduceSub, Nat.reduceEqDiff, Nat.reduceLeDiff, Nat.reduceLT, Nat.le_refl, beq_self_eq_true, Nat.reduceBEq, ne_eq, not_true_eq_false, not_false_eq_true, Int32.reduceAdd, Int32.reduceSub, Int32.reduceMul, Int32.reduceLE, Int32.reduceLT, Int32.reduceToNatClampNeg, b01_0, b01_1, ne_2_0, ne_3_0, ne_4_0, ne_5_0, ne_6_0, ne_m1_0, ne_m2_0, b01_01, b01_n, lt_m2, lt_m1, le_m2, le_m1, Classical.not_not, Bool.or_false, Bool.false_or, Bool.true_or, Bool.or_true, j_CP_minute_0, b_CP_minute_0, j_CP_minute_9, b_CP_minute_9, j_CP_minute_46, b_CP_minute_46, an_0, an_1, an_5, cl_1, cl_5, ne_0_1, ne_0_5, ne_0_m1, ne_1_0, ne_1_5, ne_1_m1, ne_5_0, ne_5_1, ne_5_m1, ne_m1_0, ne_m1_1, ne_m1_5, pp_0_7, pp_0_8, sh_0, sh_15, sh_30, vi_1, vi_5]
      refine mid_i ?_
      have M47 : M 47 = rfu I 0 47 := funext fun j => stk_o hM (by omega) (by omega)
      have M49 : M 49 = rfu I 0 49 := funext fun j => stk_o hM (by omega) (by omega)
      have M44 : M 44 = rfu I 0 44 := funext fun j => stk_o hM (by omega) (by omega)
      have hn' : M 47 4 = nI n := by rw [M47]; exact iv_n b1
      have erb : rb M n 49 s = rb (rfu I 0) n 49 s := by
        unfold rb rw_ rn rt
        rw [M47, M49]
      have eo : s ^^^ (s &&& (63 - rb (rfu I 0) n 49 s)) = rb (rfu I 0) n 49 s := out_xor (iv_64 b1) hl (rb_sub _ n 49 s)
      have hN := iv_step (N := mnm (gd M) q s (s &&& (63 - rb M n 49 s)) (M 49 38)) (iv_rf h0 0) hf hM m1 m2 mB hn (rb_lt2 (iv_s b1)) (iv_mOK b1) (fun a j ha => by unfold mnm; rw [cp_u_at, if_neg (by omega), cp_u_at, if_neg (by omega)]) (by
        refine row_upd (iv_row b1) (fun j => ?_) (fun k hk => ?_) ?_ ?_
        · have := wa_ne (wa_t ht (show 4 ≤ 9 by omega))
          unfold mnm
          rw [cp_u_at, if_neg (by omega), cp_u_at, if_neg (by omega), nteg_o (by omega) (by omega)]
          exact stk_t hM ht j
        · unfold mnm
          rw [cp_u_at, if_neg (by omega), cp_u_at, if_neg (by omega), nteg_o (by omega) (by omega), M49]
        · unfold mnm
          rw [cp_u_at, if_neg (by omega), cp_u_at, if_pos ⟨rfl, rfl⟩, erb, eo]
        · unfold mnm
          rw [cp_u_at, if_pos ⟨rfl, rfl⟩, cp_u_at, if_neg (by omega), cp_u_at, if_neg (by omega), nteg_o (by omega) (by omega), m3, M49]
          exact congrArg (· + 1) (iv_row b1).2.2.2) rfu_2
      refine c_Mod_minute (iv_n6 b1) hn' (iv_64 b1) (by rw [M49]; exact iv_st b1) hq (by rw [M44]; exact hf.2.2.2.2.2.1) ?_ ?_ ?_
      · intro _ _
        exact fin_i (by rw [erb]) (iv_of hN)
      · intro _ e
        rw [erb] at e
        exact absurd e c
      · intro e
        rw [M44] at e
        exact absurd e (iv_p1 b1 hn)
  · intro hn
    simp only [cp_kk, cp_vc, cp_vs, cp_jm, cp_ent_en, cp_en_int, cp_en_ref, cp_en_ret, cp_en_long, cp_en_nil, cp_s1_at, cp_s2_at, cp_nl_int, cp_nl_ref, cp_nl_long, cp_nl_none, cp_pop_0, cp_pop_s, reduceIte, if_true, if_false, Bool.false_eq_true, Bool.true_eq_false, false_implies, implies_true, forall_const, true_implies, true_and, and_true, and_self, true_or, or_true, false_or, or_false, Value.category, List.length_cons, List.length_nil, Option.toList_some, Option.toList_none, List.cons_append, List.nil_append, List.append_nil, Prod.mk.injEq, Nat.add_zero, Nat.zero_add, Nat.reduceAdd, Nat.reduceSub, Nat.reduceEqDiff, Nat.reduceLeDiff, Nat.reduceLT, Nat.le_refl, beq_self_eq_true, Nat.reduceBEq, ne_eq, not_true_eq_false, not_false_eq_true, Int32.reduceAdd, Int32.reduceSub, Int32.reduceMul, Int32.reduceLE, Int32.reduceLT, Int32.reduceToNatClampNeg, b01_0, b01_1, ne_2_0, ne_3_0, ne_4_0, ne_5_0, ne_6_0, ne_m1_0, ne_m2_0, b01_01, b01_n, lt_m2, lt_m1, le_m2, le_m1, Classical.not_not, Bool.or_false, Bool.false_or, Bool.true_or, Bool.or_true, j_CP_minute_0, b_CP_minute_0, j_CP_minute_9, b_CP_minute_9, j_CP_minute_46, b_CP_minute_46, an_0, an_1, an_5, cl_1, cl_5, ne_0_1, ne_0_5, ne_0_m1, ne_1_0, ne_1_5, ne_1_m1, ne_5_0, ne_5_1, ne_5_m1, ne_m1_0, ne_m1_1, ne_m1_5, pp_0_7, pp_0_8, sh_0, sh_15, sh_30, vi_1, vi_5]
    refine mid_i ?_
    refine c_Mod_minute (iv_n6 b0) (iv_n b0) (iv_64 b0) (iv_st b0) hq (by rw [rfu_o (by omega)]; exact u0) ?_ ?_ ?_
    · intro e
      exact absurd (iv_p0 b0 hn) e
    · intro e
      exact absurd (iv_p0 b0 hn) e
    · intro _
      exact fin_i rfl (iv_rn h0 n14)
theorem pbk_inj4 {a b c e : Nat} (ha : a < 6) (hb : b < 6) (hc : c < 6) (he : e < 6) (hab : a ≠ b) (h : pbk c e = pbk a b) : (c = a ∧ e = b) ∨ (c = b ∧ e = a) := by
  unfold pbk at h
  omega
theorem ctm_0 {a b : Nat} (h : ctm I t m a b = 0) : I (t + 4) (6 * a + b) = 0 ∧ m.testBit (pbk a b) = false := by
  unfold ctm at h
  by_cases e : I (t + 4) (6 * a + b) = 0 ∧ m.testBit (pbk a b) = true
  · rw [if_pos e] at h
    exact absurd h (by decide +kernel)
  · rw [if_neg e] at h
    refine ⟨h, ?_⟩
    cases e2 : m.testBit (pbk a b) with
    | false => rfl
    | true => exact absurd ⟨h, e2⟩ e
theorem ctm_add {a b c e : Nat} (ha : a < 6) (hb : b < 6) (hc : c < 6) (he : e < 6) (hab : a ≠ b) (h1 : I (t + 4) (6 * a + b) = 0) (h2 : I (t + 4) (6 * b + a) = 0) : ctm I t (m ||| 2 ^ pbk a b) c e = if (c = a ∧ e = b) ∨ (c = b ∧ e = a) then 1 else ctm I t m c e := by
  unfold ctm
  rw [Nat.testBit_or, Nat.testBit_two_pow]
  by_cases q : pbk a b = pbk c e
  · have q2 := pbk_inj4 ha hb hc he hab q.symm
    rw [if_pos q2, decide_eq_true q, Bool.or_true]
    rcases q2 with ⟨rfl, rfl⟩ | ⟨rfl, rfl⟩
    · rw [if_pos ⟨h1, rfl⟩]
    · rw [if_pos ⟨h2, rfl⟩]
  · rw [decide_eq_false q, Bool.or_false, if_neg (c := (c = a ∧ e = b) ∨ (c = b ∧ e = a))]
    rintro (⟨rfl, rfl⟩ | ⟨rfl, rfl⟩)
    · exact q rfl
    · exact q (pbk_comm _ _)
theorem pr_introduce {bb oo : Int32} (h : Iv I t u) : PR g d m_CP_introduce m_Mod_introduce [.int bb, .int oo] I J t u r x := by
  obtain ⟨⟨n, s, m, h0⟩, -, -⟩ := h
  have hB := h0.1
  have b0 := (iv_rf h0 1).1
  have b1 := (iv_rf h0 0).1
  have b5 := (iv_rf h0 5).1
  have b6 := (iv_rf h0 6).1
  have h6 := iv_n6 hB
  have ht := iv_tk hB
  obtain ⟨p, q, qi, hf0⟩ := (iv_rf h0 0).2.1
  have hf : hiF (rfu I 0) t n p q qi := hf0
  have hq := hf.2.1
  have u0 : I 44 20 = nI q := by
    have := hf.2.2.2.2.2.1
    rw [rfu_o (by omega)] at this
    exact this
  unfold PR
  refine MW.of ok_CP_introduce (Nat.le_of_ble_eq_true rfl) ?_
  refine cp_run 80 (fun _ => false) ck_CP_introduce ?_
  simp only [cp_vc, cp_vs, cp_jm, cp_ent_en, cp_en_int, cp_en_ref, cp_en_ret, cp_en_long, cp_en_nil, cp_s1_at, cp_s2_at, cp_nl_int, cp_nl_ref, cp_nl_long, cp_nl_none, cp_pop_0, cp_pop_s, reduceIte, if_true, if_false, Bool.false_eq_true, Bool.true_eq_false, false_implies, implies_true, forall_const, true_implies, true_and, and_true, and_self, true_or, or_true, false_or, or_false, Value.category, List.length_cons, List.length_nil, Option.toList_some, Option.toList_none, List.cons_append, List.nil_append, List.append_nil, Prod.mk.injEq, Nat.add_zero, Nat.zero_add, Nat.reduceAdd, Nat.reduceSub, Nat.reduceEqDiff, Nat.reduceLeDiff, Nat.reduceLT, Nat.le_refl, beq_self_eq_true, Nat.reduceBEq, ne_eq, not_true_eq_false, not_false_eq_true, Int32.reduceAdd, Int32.reduceSub, Int32.reduceMul, Int32.reduceLE, Int32.reduceLT, Int32.reduceToNatClampNeg, b01_0, b01_1, ne_2_0, ne_3_0, ne_4_0, ne_5_0, ne_6_0, ne_m1_0, ne_m2_0, b01_01, b01_n, lt_m2, lt_m1, le_m2, le_m1, Classical.not_not, j_CP_introduce_0, b_CP_introduce_0, j_CP_introduce_11, b_CP_introduce_11, j_CP_introduce_30, b_CP_introduce_30, j_CP_introduce_50, b_CP_introduce_50, an_0, an_1, an_5, an_6, cl_0, cl_1, cl_5, cl_6, ne_0_1, ne_0_5, ne_0_6, ne_1_0, ne_1_5, ne_1_6, ne_5_0, ne_5_1, ne_5_6, ne_6_0, ne_6_1, ne_6_5, pp_0_7, pp_0_8, sh_0, sh_15, sh_30, vi_0, vi_1, vi_5, vi_6]
  refine c_CP_areTwo (n := n) (iv_tk hB) (iv_n6 hB) (iv_cn hB) ?_ ?_
  · intro b o hb ho hbo e1 e2
    subst e1
    subst e2
    have hne : ¬ nI b = nI o := fun e => hbo ((nI_eq (by omega) (by omega)).1 e)
    have em := iv_mt b1 (a := b) ho
    have er0 : (rk (rfu I 0) n 49 b ||| rf (rfu I 0) n b).testBit o = false ↔ rt (rfu I 0) 49 b o = 0 := by
      rw [Nat.testBit_or]
      unfold rk rf
      rw [sp_set_bit, sp_set_bit, decide_eq_true ho, Bool.true_and, Bool.true_and, Bool.or_eq_false_iff, decide_eq_false_iff_not, decide_eq_false_iff_not, Int32.lt_iff_toInt_lt, Int32.lt_iff_toInt_lt, ← Int32.toInt_inj]
      have : (0 : Int32).toInt = 0 := rfl
      omega
    simp only [cp_kk, cp_vc, cp_vs, cp_jm, cp_ent_en, cp_en_int, cp_en_ref, cp_en_ret, cp_en_long, cp_en_nil, cp_s1_at, cp_s2_at, cp_nl_int, cp_nl_ref, cp_nl_long, cp_nl_none, cp_pop_0, cp_pop_s, reduceIte, if_true, if_false, Bool.false_eq_true, Bool.true_eq_false, false_implies, implies_true, forall_const, true_implies, true_and, and_true, and_self, true_or, or_true, false_or, or_false, Value.category, List.length_cons, List.length_nil, Option.toList_some, Option.toList_none, List.cons_append, List.nil_append, List.append_nil, Prod.mk.injEq, Nat.add_zero, Nat.zero_add, Nat.reduceAdd, Nat.reduceSub, Nat.reduceEqDiff, Nat.reduceLeDiff, Nat.reduceLT, Nat.le_refl, beq_self_eq_true, Nat.reduceBEq, ne_eq, not_true_eq_false, not_false_eq_true, Int32.reduceAdd, Int32.reduceSub, Int32.reduceMul, Int32.reduceLE, Int32.reduceLT, Int32.reduceToNatClampNeg, b01_0, b01_1, ne_2_0, ne_3_0, ne_4_0, ne_5_0, ne_6_0, ne_m1_0, ne_m2_0, b01_01, b01_n, lt_m2, lt_m1, le_m2, le_m1, Classical.not_not, Bool.or_false, Bool.false_or, Bool.true_or, Bool.or_true, j_CP_introduce_0, b_CP_introduce_0, j_CP_introduce_11, b_CP_introduce_11, j_CP_introduce_30, b_CP_introduce_30, j_CP_introduce_50, b_CP_introduce_50, an_0, an_1, an_5, an_6, cl_0, cl_1, cl_5, cl_6, ne_0_1, ne_0_5, ne_0_6, ne_1_0, ne_1_5, ne_1_6, ne_5_0, ne_5_1, ne_5_6, ne_6_0, ne_6_1, ne_6_5, pp_0_7, pp_0_8, sh_0, sh_15, sh_30, vi_0, vi_1, vi_5, vi_6]
    refine c_Bath_areStrangers (iv_n6 b1) (iv_KF b1) hb ho ?_
    by_cases q1 : (rk (rfu I 0) n 49 b ||| rf (rfu I 0) n b).testBit o = false
    · have hr0 := er0.mp q1
      simp only [cp_kk, cp_vc, cp_vs, cp_jm, cp_ent_en, cp_en_int, cp_en_ref, cp_en_ret, cp_en_long, cp_en_nil, cp_s1_at, cp_s2_at, cp_nl_int, cp_nl_ref, cp_nl_long, cp_nl_none, cp_pop_0, cp_pop_s, reduceIte, if_true, if_false, Bool.false_eq_true, Bool.true_eq_false, false_implies, implies_true, forall_const, true_implies, true_and, and_true, and_self, true_or, or_true, false_or, or_false, Value.category, List.length_cons, List.length_nil, Option.toList_some, Option.toList_none, List.cons_append, List.nil_append, List.append_nil, Prod.mk.injEq, Nat.add_zero, Nat.zero_add, Nat.reduceAdd, Nat.reduceSub, Nat.reduceEqDiff, Nat.reduceLeDiff, Nat.reduceLT, Nat.le_refl, beq_self_eq_true, Nat.reduceBEq, ne_eq, not_true_eq_false, not_false_eq_true, Int32.reduceAdd, Int32.reduceSub, Int32.reduceMul, Int32.reduceLE, Int32.reduceLT, Int32.reduceToNatClampNeg, b01_0, b01_1, ne_2_0, ne_3_0, ne_4_0, ne_5_0, ne_6_0, ne_m1_0, ne_m2_0, b01_01, b01_n, lt_m2, lt_m1, le_m2, le_m1, Classical.not_not, Bool.or_false, Bool.false_or, Bool.true_or, Bool.or_true, j_CP_introduce_0, b_CP_introduce_0, j_CP_introduce_11, b_CP_introduce_11, j_CP_introduce_30, b_CP_introduce_30, j_CP_introduce_50, b_CP_introduce_50, an_0, an_1, an_5, an_6, cl_0, cl_1, cl_5, cl_6, ne_0_1, ne_0_5, ne_0_6, ne_1_0, ne_1_5, ne_1_6, ne_5_0, ne_5_1, ne_5_6, ne_6_0, ne_6_1, ne_6_5, pp_0_7, pp_0_8, sh_0, sh_15, sh_30, vi_0, vi_1, vi_5, vi_6, q1]
      refine c_Bath_haveFriend (iv_n6 b1) (iv_KF b1) hb ho ?_
      by_cases q2 : rk (rfu I 0) n 49 b &&& rk (rfu I 0) n 49 o = 0
      · have hm0 : rm_ (rfu I 0) n 49 b o = false := by rw [← em]; unfold cmt; simp [q2]
        simp only [cp_kk, cp_vc, cp_vs, cp_jm, cp_ent_en, cp_en_int, cp_en_ref, cp_en_ret, cp_en_long, cp_en_nil, cp_s1_at, cp_s2_at, cp_nl_int, cp_nl_ref, cp_nl_long, cp_nl_none, cp_pop_0, cp_pop_s, reduceIte, if_true, if_false, Bool.false_eq_true, Bool.true_eq_false, false_implies, implies_true, forall_const, true_implies, true_and, and_true, and_self, true_or, or_true, false_or, or_false, Value.category, List.length_cons, List.length_nil, Option.toList_some, Option.toList_none, List.cons_append, List.nil_append, List.append_nil, Prod.mk.injEq, Nat.add_zero, Nat.zero_add, Nat.reduceAdd, Nat.reduceSub, Nat.reduceEqDiff, Nat.reduceLeDiff, Nat.reduceLT, Nat.le_refl, beq_self_eq_true, Nat.reduceBEq, ne_eq, not_true_eq_false, not_false_eq_true, Int32.reduceAdd, Int32.reduceSub, Int32.reduceMul, Int32.reduceLE, Int32.reduceLT, Int32.reduceToNatClampNeg, b01_0, b01_1, ne_2_0, ne_3_0, ne_4_0, ne_5_0, ne_6_0, ne_m1_0, ne_m2_0, b01_01, b01_n, lt_m2, lt_m1, le_m2, le_m1, Classical.not_not, Bool.or_false, Bool.false_or, Bool.true_or, Bool.or_true, j_CP_introduce_0, b_CP_introduce_0, j_CP_introduce_11, b_CP_introduce_11, j_CP_introduce_30, b_CP_introduce_30, j_CP_introduce_50, b_CP_introduce_50, an_0, an_1, an_5, an_6, cl_0, cl_1, cl_5, cl_6, ne_0_1, ne_0_5, ne_0_6, ne_1_0, ne_1_5, ne_1_6, ne_5_0, ne_5_1, ne_5_6, ne_6_0, ne_6_1, ne_6_5, pp_0_7, pp_0_8, sh_0, sh_15, sh_30, vi_0, vi_1, vi_5, vi_6, q2]
        rw [show cp_u (rfu I 0) 0 2 6 = rfu I 6 from rfu_rfu]
        refine mid_i ?_
        refine c_Mod_introduce (iv_n6 b6) (iv_n b6) hq (by rw [rfu_o (by omega)]; exact u0) (b := b) (o := o) (fun _ => ⟨rfl, hb⟩) (fun _ => ⟨rfl, ho⟩) ?_ ?_ ?_ ?_
        · intro _ _ _ _ e
          have e' : rm_ (rfu I 0) n 49 b o = true := e
          rw [hm0] at e'
          cases e'
        · intro _ _ _ _ _
          exact fin_i rfl (iv_rn h0 n64)
        · intro _ _ _ e
          exact absurd hr0 e
        · intro e
          exact absurd ⟨iv_isB b6 hb, iv_isB b6 ho, hne⟩ e
      · have hm1 : rm_ (rfu I 0) n 49 b o = true := by rw [← em]; unfold cmt; simp [q1, q2]
        have kt : ∀ k j, k ≤ 9 → kpM (rfu I 0) p q (t + k) j = rfu I 0 (t + k) j := fun k j hk => by
          have := wa_ne (wa_t ht hk)
          exact kpM_o (by omega)
        have k15 : ∀ j, kpM (rfu I 0) p q 15 j = rfu I 0 15 j := fun j => kpM_o (by omega)
        simp only [cp_kk, cp_vc, cp_vs, cp_jm, cp_ent_en, cp_en_int, cp_en_ref, cp_en_ret, cp_en_long, cp_en_nil, cp_s1_at, cp_s2_at, cp_nl_int, cp_nl_ref, cp_nl_long, cp_nl_none, cp_pop_0, cp_pop_s, reduceIte, if_true, if_false, Bool.false_eq_true, Bool.true_eq_false, false_implies, implies_true, forall_const, true_implies, true_and, and_true, and_self, true_or, or_true, false_or, or_false, Value.category, List.length_cons, List.length_nil, Option.toList_some, Option.toList_none, List.cons_append, List.nil_append, List.append_nil, Prod.mk.injEq, Nat.add_zero, Nat.zero_add, Nat.reduceAdd, Nat.reduceSub, Nat.reduceEqDiff, Nat.reduceLeDiff, Nat.reduceLT, Nat.le_refl, beq_self_eq_true, Nat.reduceBEq, ne_eq, not_true_eq_false, not_false_eq_true, Int32.reduceAdd, Int32.reduceSub, Int32.reduceMul, Int32.reduceLE, Int32.reduceLT, Int32.reduceToNatClampNeg, b01_0, b01_1, ne_2_0, ne_3_0, ne_4_0, ne_5_0, ne_6_0, ne_m1_0, ne_m2_0, b01_01, b01_n, lt_m2, lt_m1, le_m2, le_m1, Classical.not_not, Bool.or_false, Bool.false_or, Bool.true_or, Bool.or_true, j_CP_introduce_0, b_CP_introduce_0, j_CP_introduce_11, b_CP_introduce_11, j_CP_introduce_30, b_CP_introduce_30, j_CP_introduce_50, b_CP_introduce_50, an_0, an_1, an_5, an_6, cl_0, cl_1, cl_5, cl_6, ne_0_1, ne_0_5, ne_0_6, ne_1_0, ne_1_5, ne_1_6, ne_5_0, ne_5_1, ne_5_6, ne_6_0, ne_6_1, ne_6_5, pp_0_7, pp_0_8, sh_0, sh_15, sh_30, vi_0, vi_1, vi_5, vi_6, q2]
        refine c_Hist_keep hf.1 hf.2.1 hf.2.2.2.1 hf.2.2.2.2.1 ?_
        simp only [cp_kk, cp_vc, cp_vs, cp_jm, cp_ent_en, cp_en_int, cp_en_ref, cp_en_ret, cp_en_long, cp_en_nil, cp_s1_at, cp_s2_at, cp_nl_int, cp_nl_ref, cp_nl_long, cp_nl_none, cp_pop_0, cp_pop_s, reduceIte, if_true, if_false, Bool.false_eq_true, Bool.true_eq_false, false_implies, implies_true, forall_const, true_implies, true_and, and_true, and_self, true_or, or_true, false_or, or_false, Value.category, List.length_cons, List.length_nil, Option.toList_some, Option.toList_none, List.cons_append, List.nil_append, List.append_nil, Prod.mk.injEq, Nat.add_zero, Nat.zero_add, Nat.reduceAdd, Nat.reduceSub, Nat.reduceEqDiff, Nat.reduceLeDiff, Nat.reduceLT, Nat.le_refl, beq_self_eq_true, Nat.reduceBEq, ne_eq, not_true_eq_false, not_false_eq_true, Int32.reduceAdd, Int32.reduceSub, Int32.reduceMul, Int32.reduceLE, Int32.reduceLT, Int32.reduceToNatClampNeg, b01_0, b01_1, ne_2_0, ne_3_0, ne_4_0, ne_5_0, ne_6_0, ne_m1_0, ne_m2_0, b01_01, b01_n, lt_m2, lt_m1, le_m2, le_m1, Classical.not_not, Bool.or_false, Bool.false_or, Bool.true_or, Bool.or_true, j_CP_introduce_0, b_CP_introduce_0, j_CP_introduce_11, b_CP_introduce_11, j_CP_introduce_30, b_CP_introduce_30, j_CP_introduce_50, b_CP_introduce_50, an_0, an_1, an_5, an_6, cl_0, cl_1, cl_5, cl_6, ne_0_1, ne_0_5, ne_0_6, ne_1_0, ne_1_5, ne_1_6, ne_5_0, ne_5_1, ne_5_6, ne_6_0, ne_6_1, ne_6_5, pp_0_7, pp_0_8, sh_0, sh_15, sh_30, vi_0, vi_1, vi_5, vi_6, k15, iv_m b1]
        refine c_CP_pairBit (show b < 6 by omega) (show o < 6 by omega) hbo ?_
        simp only [cp_kk, cp_vc, cp_vs, cp_jm, cp_ent_en, cp_en_int, cp_en_ref, cp_en_ret, cp_en_long, cp_en_nil, cp_s1_at, cp_s2_at, cp_nl_int, cp_nl_ref, cp_nl_long, cp_nl_none, cp_pop_0, cp_pop_s, reduceIte, if_true, if_false, Bool.false_eq_true, Bool.true_eq_false, false_implies, implies_true, forall_const, true_implies, true_and, and_true, and_self, true_or, or_true, false_or, or_false, Value.category, List.length_cons, List.length_nil, Option.toList_some, Option.toList_none, List.cons_append, List.nil_append, List.append_nil, Prod.mk.injEq, Nat.add_zero, Nat.zero_add, Nat.reduceAdd, Nat.reduceSub, Nat.reduceEqDiff, Nat.reduceLeDiff, Nat.reduceLT, Nat.le_refl, beq_self_eq_true, Nat.reduceBEq, ne_eq, not_true_eq_false, not_false_eq_true, Int32.reduceAdd, Int32.reduceSub, Int32.reduceMul, Int32.reduceLE, Int32.reduceLT, Int32.reduceToNatClampNeg, b01_0, b01_1, ne_2_0, ne_3_0, ne_4_0, ne_5_0, ne_6_0, ne_m1_0, ne_m2_0, b01_01, b01_n, lt_m2, lt_m1, le_m2, le_m1, Classical.not_not, Bool.or_false, Bool.false_or, Bool.true_or, Bool.or_true, j_CP_introduce_0, b_CP_introduce_0, j_CP_introduce_11, b_CP_introduce_11, j_CP_introduce_30, b_CP_introduce_30, j_CP_introduce_50, b_CP_introduce_50, an_0, an_1, an_5, an_6, cl_0, cl_1, cl_5, cl_6, ne_0_1, ne_0_5, ne_0_6, ne_1_0, ne_1_5, ne_1_6, ne_5_0, ne_5_1, ne_5_6, ne_6_0, ne_6_1, ne_6_5, pp_0_7, pp_0_8, sh_0, sh_15, sh_30, vi_0, vi_1, vi_5, vi_6, k15, or_g]
        have mo := mOK_add (iv_mOK b1) (show b < 6 by omega) (show o < 6 by omega) hbo
        refine c_Bath_settle (m := m) (m' := m ||| 2 ^ pbk b o) (cT_o (iv_cT b1) kt) (by rw [k15]; exact iv_m b1) (mOK_lt (iv_mOK b1)) (mOK_lt mo) (bOK_o (iv_bOK b1) kt (fun a j h1 h2 => kpM_o (by omega))) ?_
        intro M hM m1 m2 m3 mB
        simp only [cp_kk, cp_vc, cp_vs, cp_jm, cp_ent_en, cp_en_int, cp_en_ref, cp_en_ret, cp_en_long, cp_en_nil, cp_s1_at, cp_s2_at, cp_nl_int, cp_nl_ref, cp_nl_long, cp_nl_none, cp_pop_0, cp_pop_s, reduceIte, if_true, if_false, Bool.false_eq_true, Bool.true_eq_false, false_implies, implies_true, forall_const, true_implies, true_and, and_true, and_self, true_or, or_true, false_or, or_false, Value.category, List.length_cons, List.length_nil, Option.toList_some, Option.toList_none, List.cons_append, List.nil_append, List.append_nil, Prod.mk.injEq, Nat.add_zero, Nat.zero_add, Nat.reduceAdd, Nat.reduceSub, Nat.reduceEqDiff, Nat.reduceLeDiff, Nat.reduceLT, Nat.le_refl, beq_self_eq_true, Nat.reduceBEq, ne_eq, not_true_eq_false, not_false_eq_true, Int32.reduceAdd, Int32.reduceSub, Int32.reduceMul, Int32.reduceLE, Int32.reduceLT, Int32.reduceToNatClampNeg, b01_0, b01_1, ne_2_0, ne_3_0, ne_4_0, ne_5_0, ne_6_0, ne_m1_0, ne_m2_0, b01_01, b01_n, lt_m2, lt_m1, le_m2, le_m1, Classical.not_not, Bool.or_false, Bool.false_or, Bool.true_or, Bool.or_true, j_CP_introduce_0, b_CP_introduce_0, j_CP_introduce_11, b_CP_introduce_11, j_CP_introduce_30, b_CP_introduce_30, j_CP_introduce_50, b_CP_introduce_50, an_0, an_1, an_5, an_6, cl_0, cl_1, cl_5, cl_6, ne_0_1, ne_0_5, ne_0_6, ne_1_0, ne_1_5, ne_1_6, ne_5_0, ne_5_1, ne_5_6, ne_6_0, ne_6_1, ne_6_5, pp_0_7, pp_0_8, sh_0, sh_15, sh_30, vi_0, vi_1, vi_5, vi_6]
        refine mid_i ?_
        have M47 : M 47 = rfu I 0 47 := funext fun j => stk_o hM (by omega) (by omega)
        have M49 : M 49 = rfu I 0 49 := funext fun j => stk_o hM (by omega) (by omega)
        have M44 : M 44 = rfu I 0 44 := funext fun j => stk_o hM (by omega) (by omega)
        have hn' : M 47 4 = nI n := by rw [M47]; exact iv_n b1
        have isb : ∀ z, z < n → isB M (nI z) := fun z hz => by
          unfold isB
          rw [M44, M47]
          exact iv_isB b1 hz
        have ert : rt M 49 b o = rt (rfu I 0) 49 b o := by unfold rt; rw [M49]
        have erm : rm_ M n 49 b o = rm_ (rfu I 0) n 49 b o := by
          unfold rm_ rk rt
          rw [M49]
        have c0 := ctm_0 (by rw [← iv_rt b1 (show b < 6 by omega) (show o < 6 by omega)]; exact hr0)
        have c1 := ctm_0 (by rw [ctm_sym b1 m (show o < 6 by omega) (show b < 6 by omega), ← iv_rt b1 (show b < 6 by omega) (show o < 6 by omega)]; exact hr0)
        have hN := iv_step (N := itm (gd M) q b o (M 49 37)) (iv_rf h0 0) hf hM (m1.trans (by rw [iv_in b1])) m2 mB (by omega) (iv_s b1) mo (fun a j ha => by unfold itm; rw [cp_u_at, if_neg (by omega), cp_u_at, if_neg (by omega), cp_u_at, if_neg (by omega)]) (by
          have e4 : ∀ j, itm (gd M) q b o (M 49 37) (t + 4) j = rfu I 0 (t + 4) j := fun j => by
            have := wa_ne (wa_t ht (show 4 ≤ 9 by omega))
            unfold itm
            rw [cp_u_at, if_neg (by omega), cp_u_at, if_neg (by omega), cp_u_at, if_neg (by omega), nteg_o (by omega) (by omega)]
            exact stk_t hM ht j
          have ec : ctm (itm (gd M) q b o (M 49 37)) t = ctm (rfu I 0) t := by funext m' a b; unfold ctm; rw [e4]
          have w := iv_row b1
          refine ⟨fun a c ha hc => ?_, ?_, ?_, ?_⟩
          · rw [ec, ctm_add (show b < 6 by omega) (show o < 6 by omega) ha hc hbo c0.1 c1.1]
            have wt := w.1 a c ha hc
            rw [Nat.zero_add] at wt ⊢
            unfold itm
            rw [cp_u_at, if_neg (by omega)]
            by_cases z2 : a = o ∧ c = b
            · rw [if_pos (Or.inr z2), cp_u_at, if_pos ⟨rfl, by rw [z2.1, z2.2]⟩]
            · rw [cp_u_at, if_neg (by omega)]
              by_cases z1 : a = b ∧ c = o
              · rw [if_pos (Or.inl z1), cp_u_at, if_pos ⟨rfl, by rw [z1.1, z1.2]⟩]
              · rw [cp_u_at, if_neg (by omega), if_neg (by omega), nteg_o (by omega) (by omega), M49]
                exact wt
          · unfold itm
            rw [cp_u_at, if_neg (by omega), cp_u_at, if_neg (by omega), cp_u_at, if_neg (by omega), nteg_o (by omega) (by omega), M49]
            exact w.2.1
          · unfold itm
            rw [cp_u_at, if_pos ⟨rfl, rfl⟩, M49, show rfu I 0 49 37 = nI (pc30 m) from w.2.2.1, pc_add (pbk_ok (show b < 6 by omega) (show o < 6 by omega) hbo).1 c0.2, nI_1]
          · unfold itm
            rw [cp_u_at, if_neg (by omega), cp_u_at, if_neg (by omega), cp_u_at, if_neg (by omega), nteg_o (by omega) (by omega), M49, cp_u_at, if_neg (by omega), cp_u_at, if_neg (by omega), cp_u_at, if_neg (by omega), nteg_o (by omega) (by omega), m3]
            exact w.2.2.2) rfu_2
        refine c_Mod_introduce (iv_n6 b1) hn' hq (by rw [M44]; exact hf.2.2.2.2.2.1) (b := b) (o := o) (fun _ => ⟨rfl, hb⟩) (fun _ => ⟨rfl, ho⟩) ?_ ?_ ?_ ?_
        · intro _ _ _ _ _
          exact fin_i rfl (iv_of hN)
        · intro _ _ _ _ e
          rw [erm, hm1] at e
          cases e
        · intro _ _ _ e
          rw [ert] at e
          exact absurd hr0 e
        · intro e
          exact absurd ⟨isb b hb, isb o ho, hne⟩ e
    · have hr0 : ¬ rt (rfu I 0) 49 b o = 0 := fun z => q1 (er0.mpr z)
      simp only [cp_kk, cp_vc, cp_vs, cp_jm, cp_ent_en, cp_en_int, cp_en_ref, cp_en_ret, cp_en_long, cp_en_nil, cp_s1_at, cp_s2_at, cp_nl_int, cp_nl_ref, cp_nl_long, cp_nl_none, cp_pop_0, cp_pop_s, reduceIte, if_true, if_false, Bool.false_eq_true, Bool.true_eq_false, false_implies, implies_true, forall_const, true_implies, true_and, and_true, and_self, true_or, or_true, false_or, or_false, Value.category, List.length_cons, List.length_nil, Option.toList_some, Option.toList_none, List.cons_append, List.nil_append, List.append_nil, Prod.mk.injEq, Nat.add_zero, Nat.zero_add, Nat.reduceAdd, Nat.reduceSub, Nat.reduceEqDiff, Nat.reduceLeDiff, Nat.reduceLT, Nat.le_refl, beq_self_eq_true, Nat.reduceBEq, ne_eq, not_true_eq_false, not_false_eq_true, Int32.reduceAdd, Int32.reduceSub, Int32.reduceMul, Int32.reduceLE, Int32.reduceLT, Int32.reduceToNatClampNeg, b01_0, b01_1, ne_2_0, ne_3_0, ne_4_0, ne_5_0, ne_6_0, ne_m1_0, ne_m2_0, b01_01, b01_n, lt_m2, lt_m1, le_m2, le_m1, Classical.not_not, Bool.or_false, Bool.false_or, Bool.true_or, Bool.or_true, j_CP_introduce_0, b_CP_introduce_0, j_CP_introduce_11, b_CP_introduce_11, j_CP_introduce_30, b_CP_introduce_30, j_CP_introduce_50, b_CP_introduce_50, an_0, an_1, an_5, an_6, cl_0, cl_1, cl_5, cl_6, ne_0_1, ne_0_5, ne_0_6, ne_1_0, ne_1_5, ne_1_6, ne_5_0, ne_5_1, ne_5_6, ne_6_0, ne_6_1, ne_6_5, pp_0_7, pp_0_8, sh_0, sh_15, sh_30, vi_0, vi_1, vi_5, vi_6, q1]
      rw [show cp_u (rfu I 0) 0 2 5 = rfu I 5 from rfu_rfu]
      refine mid_i ?_
      refine c_Mod_introduce (iv_n6 b5) (iv_n b5) hq (by rw [rfu_o (by omega)]; exact u0) (b := b) (o := o) (fun _ => ⟨rfl, hb⟩) (fun _ => ⟨rfl, ho⟩) ?_ ?_ ?_ ?_
      · intro _ _ _ e
        exact absurd e hr0
      · intro _ _ _ e
        exact absurd e hr0
      · intro _ _ _ _
        exact fin_i rfl (iv_rn h0 n54)
      · intro e
        exact absurd ⟨iv_isB b5 hb, iv_isB b5 ho, hne⟩ e
  · intro hno
    have hnn : ¬ (isB (rfu I 1) bb ∧ isB (rfu I 1) oo ∧ ¬ bb = oo) := by
      rintro ⟨e1, e2, e3⟩
      obtain ⟨b, hb, rfl⟩ := isB_n (iv_n6 b0) (iv_n b0) e1
      obtain ⟨o, ho, rfl⟩ := isB_n (iv_n6 b0) (iv_n b0) e2
      exact hno ⟨b, o, hb, ho, fun e => e3 (by rw [e]), rfl, rfl⟩
    have hx : ∀ c : Int32, isB (rfu I 1) c → c = nI c.toNatClampNeg ∧ c.toNatClampNeg < n := fun c e => by
      obtain ⟨b, hb, rfl⟩ := isB_n (iv_n6 b0) (iv_n b0) e
      rw [ncl (by omega)]
      exact ⟨rfl, hb⟩
    simp only [cp_kk, cp_vc, cp_vs, cp_jm, cp_ent_en, cp_en_int, cp_en_ref, cp_en_ret, cp_en_long, cp_en_nil, cp_s1_at, cp_s2_at, cp_nl_int, cp_nl_ref, cp_nl_long, cp_nl_none, cp_pop_0, cp_pop_s, reduceIte, if_true, if_false, Bool.false_eq_true, Bool.true_eq_false, false_implies, implies_true, forall_const, true_implies, true_and, and_true, and_self, true_or, or_true, false_or, or_false, Value.category, List.length_cons, List.length_nil, Option.toList_some, Option.toList_none, List.cons_append, List.nil_append, List.append_nil, Prod.mk.injEq, Nat.add_zero, Nat.zero_add, Nat.reduceAdd, Nat.reduceSub, Nat.reduceEqDiff, Nat.reduceLeDiff, Nat.reduceLT, Nat.le_refl, beq_self_eq_true, Nat.reduceBEq, ne_eq, not_true_eq_false, not_false_eq_true, Int32.reduceAdd, Int32.reduceSub, Int32.reduceMul, Int32.reduceLE, Int32.reduceLT, Int32.reduceToNatClampNeg, b01_0, b01_1, ne_2_0, ne_3_0, ne_4_0, ne_5_0, ne_6_0, ne_m1_0, ne_m2_0, b01_01, b01_n, lt_m2, lt_m1, le_m2, le_m1, Classical.not_not, Bool.or_false, Bool.false_or, Bool.true_or, Bool.or_true, j_CP_introduce_0, b_CP_introduce_0, j_CP_introduce_11, b_CP_introduce_11, j_CP_introduce_30, b_CP_introduce_30, j_CP_introduce_50, b_CP_introduce_50, an_0, an_1, an_5, an_6, cl_0, cl_1, cl_5, cl_6, ne_0_1, ne_0_5, ne_0_6, ne_1_0, ne_1_5, ne_1_6, ne_5_0, ne_5_1, ne_5_6, ne_6_0, ne_6_1, ne_6_5, pp_0_7, pp_0_8, sh_0, sh_15, sh_30, vi_0, vi_1, vi_5, vi_6]
    refine mid_i ?_
    refine c_Mod_introduce (iv_n6 b0) (iv_n b0) hq (by rw [rfu_o (by omega)]; exact u0) (b := bb.toNatClampNeg) (o := oo.toNatClampNeg) (fun e => hx bb e) (fun e => hx oo e) ?_ ?_ ?_ ?_
    · intro e1 e2 e3
      exact absurd ⟨e1, e2, e3⟩ hnn
    · intro e1 e2 e3
      exact absurd ⟨e1, e2, e3⟩ hnn
    · intro e1 e2 e3
      exact absurd ⟨e1, e2, e3⟩ hnn
    · intro _
      exact fin_i rfl (iv_rn h0 n14)
end Pr6
