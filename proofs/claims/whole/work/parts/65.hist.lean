section Hist1
variable {g : cp_G} {d : Nat} {sh : cp_H} {I : cp_I} {J : cp_J} {P : cp_P} {Q : cp_QT} {t u r x n : Nat}
/-! the fewest introductions -/
def cfw (c nd : Int32) (K F : Nat → Nat) (set n : Nat) (w : Int32) : Nat → Nat → Option (Nat × Option Nat) := fiO (fun m => (sp_ie c nd F set n m K w).map (fun o => (m, o)))
theorem lp_Intro_ff39 {K F : Nat → Nat} {set : Nat} (hc : cT I t n) (hs : set < 64) (hK : cKF I n K F) : ∀ (k m : Nat) (L : cp_Lo), m + k = 4 → L 0 = some (.ref 40) → L 1 = some (.ref 15) → L 2 = some (.int (nI set)) → L 3 = some (.int (nI m)) →
    (∀ q, cfw (I t 1) (I 29 set) K F set n (I 28 set) k m = some q → Q (some (.int (nI q.1))) SH (imk n I K (ieF (-2) q.2)) J (PP t u r x)) → (cfw (I t 1) (I 29 set) K F set n (I 28 set) k m = none → Q (some (.int (-2))) SH (imk n I K (-2)) J (PP t u r x)) → RW g false (d + 9) 0 0 m_Intro_fewestFor 0 0 39 L [] SH (imk n I K (-2)) J (PP t u r x) Q := by
  obtain ⟨ht, hn6, hn, he⟩ := id hc
  intro k
  induction k with
  | zero =>
    intro m L hm l0 l1 l2 l3 h1 h0
    have c1 : (3 : Int32) < nI m := nI_lt (a := 3) (by omega) (by omega)
    refine cp_run 20 (fun t => t == 39) ck_Intro_fewestFor ?_
    rw [j_Intro_fewestFor_39, b_Intro_fewestFor_39]
    simp only [cp_vc, cp_vs, cp_jm, cp_ent_en, cp_en_int, cp_en_ref, cp_en_ret, cp_en_long, cp_en_nil, cp_s1_at, cp_s2_at, cp_nl_int, cp_nl_ref, cp_nl_long, cp_nl_none, cp_pop_0, cp_pop_s, reduceIte, if_true, if_false, Bool.false_eq_true, Bool.true_eq_false, false_implies, implies_true, forall_const, true_implies, true_and, and_true, and_self, true_or, or_true, false_or, or_false, Value.category, List.length_cons, List.length_nil, Option.toList_some, Option.toList_none, List.cons_append, List.nil_append, List.append_nil, Prod.mk.injEq, Nat.add_zero, Nat.zero_add, Nat.reduceAdd, Nat.reduceSub, Nat.reduceEqDiff, Nat.reduceLeDiff, Nat.reduceLT, Nat.le_refl, beq_self_eq_true, Nat.reduceBEq, ne_eq, not_true_eq_false, not_false_eq_true, Int32.reduceAdd, Int32.reduceSub, Int32.reduceMul, Int32.reduceLE, Int32.reduceLT, Int32.reduceToNatClampNeg, b01_0, b01_1, ne_2_0, ne_3_0, ne_4_0, ne_5_0, ne_6_0, ne_m1_0, ne_m2_0, b01_01, b01_n, lt_m2, lt_m1, le_m2, le_m1, Classical.not_not, j_Intro_fewestFor_0, b_Intro_fewestFor_0, j_Intro_fewestFor_8, b_Intro_fewestFor_8, j_Intro_fewestFor_37, b_Intro_fewestFor_37, j_Intro_fewestFor_62, b_Intro_fewestFor_62, j_Intro_fewestFor_68, b_Intro_fewestFor_68, an_0, an_1, an_3, cl_0, cl_3, ne_0_1, ne_0_3, ne_0_m2, ne_1_0, ne_1_3, ne_1_m2, ne_3_0, ne_3_1, ne_3_m2, ne_m2_0, ne_m2_1, ne_m2_3, pp_15_0, pp_15_4, pp_15_6, pp_40_0, sh_15, sh_26, sh_28, sh_40, sh_41, vi_0, vi_3, l0, l1, l2, l3, c1]
    exact h0 rfl
  | succ k ih =>
    intro m L hm l0 l1 l2 l3 h1 h0
    have c1 : ¬ (3 : Int32) < nI m := nI_nlt (b := m) (a := 3) (by omega) (by omega)
    have e28 : imk n I K (-2) 28 set = I 28 set := imk_o (by omega) (by omega) set
    unfold cfw at h1 h0
    rw [fiO] at h1 h0
    refine cp_run 40 (fun t => t == 39) ck_Intro_fewestFor ?_
    rw [j_Intro_fewestFor_39, b_Intro_fewestFor_39]
    simp only [cp_vc, cp_vs, cp_jm, cp_ent_en, cp_en_int, cp_en_ref, cp_en_ret, cp_en_long, cp_en_nil, cp_s1_at, cp_s2_at, cp_nl_int, cp_nl_ref, cp_nl_long, cp_nl_none, cp_pop_0, cp_pop_s, reduceIte, if_true, if_false, Bool.false_eq_true, Bool.true_eq_false, false_implies, implies_true, forall_const, true_implies, true_and, and_true, and_self, true_or, or_true, false_or, or_false, Value.category, List.length_cons, List.length_nil, Option.toList_some, Option.toList_none, List.cons_append, List.nil_append, List.append_nil, Prod.mk.injEq, Nat.add_zero, Nat.zero_add, Nat.reduceAdd, Nat.reduceSub, Nat.reduceEqDiff, Nat.reduceLeDiff, Nat.reduceLT, Nat.le_refl, beq_self_eq_true, Nat.reduceBEq, ne_eq, not_true_eq_false, not_false_eq_true, Int32.reduceAdd, Int32.reduceSub, Int32.reduceMul, Int32.reduceLE, Int32.reduceLT, Int32.reduceToNatClampNeg, b01_0, b01_1, ne_2_0, ne_3_0, ne_4_0, ne_5_0, ne_6_0, ne_m1_0, ne_m2_0, b01_01, b01_n, lt_m2, lt_m1, le_m2, le_m1, Classical.not_not, j_Intro_fewestFor_0, b_Intro_fewestFor_0, j_Intro_fewestFor_8, b_Intro_fewestFor_8, j_Intro_fewestFor_37, b_Intro_fewestFor_37, j_Intro_fewestFor_62, b_Intro_fewestFor_62, j_Intro_fewestFor_68, b_Intro_fewestFor_68, an_0, an_1, an_3, cl_0, cl_3, ne_0_1, ne_0_3, ne_0_m2, ne_1_0, ne_1_3, ne_1_m2, ne_3_0, ne_3_1, ne_3_m2, ne_m2_0, ne_m2_1, ne_m2_3, pp_15_0, pp_15_4, pp_15_6, pp_40_0, sh_15, sh_26, sh_28, sh_40, sh_41, vi_0, vi_3, l0, l1, l2, l3, c1, sh_15, vin (show set < 64 by omega) (by omega), ncl (show set < 1000 by omega), e28]
    refine c_Intro_isEnough (d := d + 6 - 2 * m) (F := F) hc hs (fun j hj => ⟨(hK j hj).2.2.1, (hK j hj).2.2.2⟩) m (d + 6) K (I 28 set) (-2) _ (by omega) (by omega) (fun j hj => (hK j hj).2.1) ?_ ?_
    · intro o ho
      simp only [ho, Option.map] at h1
      simp only [cp_kk, cp_vc, cp_vs, cp_jm, cp_ent_en, cp_en_int, cp_en_ref, cp_en_ret, cp_en_long, cp_en_nil, cp_s1_at, cp_s2_at, cp_nl_int, cp_nl_ref, cp_nl_long, cp_nl_none, cp_pop_0, cp_pop_s, reduceIte, if_true, if_false, Bool.false_eq_true, Bool.true_eq_false, false_implies, implies_true, forall_const, true_implies, true_and, and_true, and_self, true_or, or_true, false_or, or_false, Value.category, List.length_cons, List.length_nil, Option.toList_some, Option.toList_none, List.cons_append, List.nil_append, List.append_nil, Prod.mk.injEq, Nat.add_zero, Nat.zero_add, Nat.reduceAdd, Nat.reduceSub, Nat.reduceEqDiff, Nat.reduceLeDiff, Nat.reduceLT, Nat.le_refl, beq_self_eq_true, Nat.reduceBEq, ne_eq, not_true_eq_false, not_false_eq_true, Int32.reduceAdd, Int32.reduceSub, Int32.reduceMul, Int32.reduceLE, Int32.reduceLT, Int32.reduceToNatClampNeg, b01_0, b01_1, ne_2_0, ne_3_0, ne_4_0, ne_5_0, ne_6_0, ne_m1_0, ne_m2_0, b01_01, b01_n, lt_m2, lt_m1, le_m2, le_m1, Classical.not_not, Bool.or_false, Bool.false_or, Bool.true_or, Bool.or_true, j_Intro_fewestFor_0, b_Intro_fewestFor_0, j_Intro_fewestFor_8, b_Intro_fewestFor_8, j_Intro_fewestFor_37, b_Intro_fewestFor_37, j_Intro_fewestFor_62, b_Intro_fewestFor_62, j_Intro_fewestFor_68, b_Intro_fewestFor_68, an_0, an_1, an_3, cl_0, cl_3, ne_0_1, ne_0_3, ne_0_m2, ne_1_0, ne_1_3, ne_1_m2, ne_3_0, ne_3_1, ne_3_m2, ne_m2_0, ne_m2_1, ne_m2_3, pp_15_0, pp_15_4, pp_15_6, pp_40_0, sh_15, sh_26, sh_28, sh_40, sh_41, vi_0, vi_3, l0, l1, l2, l3]
      exact h1 _ rfl
    · intro ho
      simp only [ho, Option.map] at h1 h0
      simp only [cp_kk, cp_vc, cp_vs, cp_jm, cp_ent_en, cp_en_int, cp_en_ref, cp_en_ret, cp_en_long, cp_en_nil, cp_s1_at, cp_s2_at, cp_nl_int, cp_nl_ref, cp_nl_long, cp_nl_none, cp_pop_0, cp_pop_s, reduceIte, if_true, if_false, Bool.false_eq_true, Bool.true_eq_false, false_implies, implies_true, forall_const, true_implies, true_and, and_true, and_self, true_or, or_true, false_or, or_false, Value.category, List.length_cons, List.length_nil, Option.toList_some, Option.toList_none, List.cons_append, List.nil_append, List.append_nil, Prod.mk.injEq, Nat.add_zero, Nat.zero_add, Nat.reduceAdd, Nat.reduceSub, Nat.reduceEqDiff, Nat.reduceLeDiff, Nat.reduceLT, Nat.le_refl, beq_self_eq_true, Nat.reduceBEq, ne_eq, not_true_eq_false, not_false_eq_true, Int32.reduceAdd, Int32.reduceSub, Int32.reduceMul, Int32.reduceLE, Int32.reduceLT, Int32.reduceToNatClampNeg, b01_0, b01_1, ne_2_0, ne_3_0, ne_4_0, ne_5_0, ne_6_0, ne_m1_0, ne_m2_0, b01_01, b01_n, lt_m2, lt_m1, le_m2, le_m1, Classical.not_not, Bool.or_false, Bool.false_or, Bool.true_or, Bool.or_true, j_Intro_fewestFor_0, b_Intro_fewestFor_0, j_Intro_fewestFor_8, b_Intro_fewestFor_8, j_Intro_fewestFor_37, b_Intro_fewestFor_37, j_Intro_fewestFor_62, b_Intro_fewestFor_62, j_Intro_fewestFor_68, b_Intro_fewestFor_68, an_0, an_1, an_3, cl_0, cl_3, ne_0_1, ne_0_3, ne_0_m2, ne_1_0, ne_1_3, ne_1_m2, ne_3_0, ne_3_1, ne_3_m2, ne_m2_0, ne_m2_1, ne_m2_3, pp_15_0, pp_15_4, pp_15_6, pp_40_0, sh_15, sh_26, sh_28, sh_40, sh_41, vi_0, vi_3, l0, l1, l2, l3, nI_1]
      refine ih (m + 1) _ (by omega) ?_ ?_ ?_ ?_ h1 h0 <;> simp [cp_s1_at, cp_nl_int, cp_nl_ref, l0, l1, l2]
theorem lp_Intro_ff8 {K F : Nat → Nat} {set : Nat} (hc : cT I t n) (hK : cKF I n K F) (h : ∀ L : cp_Lo, L 0 = some (.ref 40) → L 1 = some (.ref 15) → L 2 = some (.int (nI set)) → RW g false (d + 9) 0 0 m_Intro_fewestFor 0 0 37 L [] SH (imk n I K (-2)) J (PP t u r x) Q) :
    ∀ (m k : Nat) (M : cp_I) (L : cp_Lo), k + m = n → (∀ a j, ¬ (a = 41 ∧ j < n) → ¬ (a = 40 ∧ j = 1) → M a j = I a j) → M 40 1 = -2 → (∀ j, j < k → M 41 j = nI (K j)) → L 0 = some (.ref 40) → L 1 = some (.ref 15) → L 2 = some (.int (nI set)) → L 3 = some (.int (nI k)) → RW g false (d + 9) 0 0 m_Intro_fewestFor 0 0 8 L [] SH M J (PP t u r x) Q := by
  obtain ⟨ht, hn6, hn, he⟩ := id hc
  have tn : ∀ c, c = 40 ∨ c = 41 → t ≠ c := fun c hc => tk_ne (k := 0) ht (by omega) hc
  intro m
  induction m with
  | zero =>
    intro k M L hk e1 e2 e3 l0 l1 l2 l3
    have c1 : nI n ≤ nI k := nI_le (by omega) (by omega)
    have e : M t 4 = nI n := by rw [e1 t 4 (fun q => tn 41 (by omega) q.1) (fun q => tn 40 (by omega) q.1)]; exact hn
    have eM : M = imk n I K (-2) := by
      funext a j
      unfold imk
      by_cases q1 : a = 41 ∧ j < n
      · rw [if_pos q1, q1.1]
        exact e3 j (by omega)
      · rw [if_neg q1]
        by_cases q2 : a = 40 ∧ j = 1
        · rw [if_pos q2, q2.1, q2.2]
          exact e2
        · rw [if_neg q2]
          exact e1 a j q1 q2
    refine cp_run 20 (fun t => t == 8 || t == 37) ck_Intro_fewestFor ?_
    rw [j_Intro_fewestFor_8, b_Intro_fewestFor_8]
    simp only [cp_vc, cp_vs, cp_jm, cp_ent_en, cp_en_int, cp_en_ref, cp_en_ret, cp_en_long, cp_en_nil, cp_s1_at, cp_s2_at, cp_nl_int, cp_nl_ref, cp_nl_long, cp_nl_none, cp_pop_0, cp_pop_s, reduceIte, if_true, if_false, Bool.false_eq_true, Bool.true_eq_false, false_implies, implies_true, forall_const, true_implies, true_and, and_true, and_self, true_or, or_true, false_or, or_false, Value.category, List.length_cons, List.length_nil, Option.toList_some, Option.toList_none, List.cons_append, List.nil_append, List.append_nil, Prod.mk.injEq, Nat.add_zero, Nat.zero_add, Nat.reduceAdd, Nat.reduceSub, Nat.reduceEqDiff, Nat.reduceLeDiff, Nat.reduceLT, Nat.le_refl, beq_self_eq_true, Nat.reduceBEq, ne_eq, not_true_eq_false, not_false_eq_true, Int32.reduceAdd, Int32.reduceSub, Int32.reduceMul, Int32.reduceLE, Int32.reduceLT, Int32.reduceToNatClampNeg, b01_0, b01_1, ne_2_0, ne_3_0, ne_4_0, ne_5_0, ne_6_0, ne_m1_0, ne_m2_0, b01_01, b01_n, lt_m2, lt_m1, le_m2, le_m1, Classical.not_not, Bool.or_false, Bool.false_or, Bool.true_or, Bool.or_true, j_Intro_fewestFor_0, b_Intro_fewestFor_0, j_Intro_fewestFor_39, b_Intro_fewestFor_39, j_Intro_fewestFor_62, b_Intro_fewestFor_62, j_Intro_fewestFor_68, b_Intro_fewestFor_68, an_0, an_1, an_3, cl_0, cl_3, ne_0_1, ne_0_3, ne_0_m2, ne_1_0, ne_1_3, ne_1_m2, ne_3_0, ne_3_1, ne_3_m2, ne_m2_0, ne_m2_1, ne_m2_3, pp_15_0, pp_15_4, pp_15_6, pp_40_0, sh_15, sh_26, sh_28, sh_40, sh_41, vi_0, vi_3, l0, l1, l2, l3, sh_15, pp_15_0, sT0 ht, sT1 ht, sT2 ht, sT3 ht, sT4 ht, sT5 ht, sT6 ht, sT7 ht, sT8 ht, sT9 ht, pT1 ht, pT2 ht, pT3 ht, pT4 ht, pT5 ht, pT6 ht, pT7 ht, pT8 ht, pT9 ht, e, c1]
    rw [eM]
    exact h L l0 l1 l2
  | succ m ih =>
    intro k M L hk e1 e2 e3 l0 l1 l2 l3
    have c1 : ¬ nI n ≤ nI k := nI_ge (by omega) (by omega)
    have e : M t 4 = nI n := by rw [e1 t 4 (fun q => tn 41 (by omega) q.1) (fun q => tn 40 (by omega) q.1)]; exact hn
    have e26 : M 26 k = nI (K k) := by rw [e1 26 k (by omega) (by omega)]; exact (hK k (by omega)).1
    refine cp_run 40 (fun t => t == 8 || t == 37) ck_Intro_fewestFor ?_
    rw [j_Intro_fewestFor_8, b_Intro_fewestFor_8]
    simp only [cp_vc, cp_vs, cp_jm, cp_ent_en, cp_en_int, cp_en_ref, cp_en_ret, cp_en_long, cp_en_nil, cp_s1_at, cp_s2_at, cp_nl_int, cp_nl_ref, cp_nl_long, cp_nl_none, cp_pop_0, cp_pop_s, reduceIte, if_true, if_false, Bool.false_eq_true, Bool.true_eq_false, false_implies, implies_true, forall_const, true_implies, true_and, and_true, and_self, true_or, or_true, false_or, or_false, Value.category, List.length_cons, List.length_nil, Option.toList_some, Option.toList_none, List.cons_append, List.nil_append, List.append_nil, Prod.mk.injEq, Nat.add_zero, Nat.zero_add, Nat.reduceAdd, Nat.reduceSub, Nat.reduceEqDiff, Nat.reduceLeDiff, Nat.reduceLT, Nat.le_refl, beq_self_eq_true, Nat.reduceBEq, ne_eq, not_true_eq_false, not_false_eq_true, Int32.reduceAdd, Int32.reduceSub, Int32.reduceMul, Int32.reduceLE, Int32.reduceLT, Int32.reduceToNatClampNeg, b01_0, b01_1, ne_2_0, ne_3_0, ne_4_0, ne_5_0, ne_6_0, ne_m1_0, ne_m2_0, b01_01, b01_n, lt_m2, lt_m1, le_m2, le_m1, Classical.not_not, Bool.or_false, Bool.false_or, Bool.true_or, Bool.or_true, j_Intro_fewestFor_0, b_Intro_fewestFor_0, j_Intro_fewestFor_39, b_Intro_fewestFor_39, j_Intro_fewestFor_62, b_Intro_fewestFor_62, j_Intro_fewestFor_68, b_Intro_fewestFor_68, an_0, an_1, an_3, cl_0, cl_3, ne_0_1, ne_0_3, ne_0_m2, ne_1_0, ne_1_3, ne_1_m2, ne_3_0, ne_3_1, ne_3_m2, ne_m2_0, ne_m2_1, ne_m2_3, pp_15_0, pp_15_4, pp_15_6, pp_40_0, sh_15, sh_26, sh_28, sh_40, sh_41, vi_0, vi_3, l0, l1, l2, l3, sh_15, pp_15_0, sT0 ht, sT1 ht, sT2 ht, sT3 ht, sT4 ht, sT5 ht, sT6 ht, sT7 ht, sT8 ht, sT9 ht, pT1 ht, pT2 ht, pT3 ht, pT4 ht, pT5 ht, pT6 ht, pT7 ht, pT8 ht, pT9 ht, e, c1, vin (show k < 6 by omega) (by omega), ncl (show k < 1000 by omega), e26, nI_1]
    refine ih (k + 1) _ _ (by omega) ?_ ?_ ?_ ?_ ?_ ?_ ?_
    · intro a j h1 h2
      rw [cp_u_at, if_neg (by omega)]
      exact e1 a j h1 h2
    · rw [cp_u_at, if_neg (by omega)]
      exact e2
    · intro j hj
      by_cases q : j = k
      · simp [cp_u_at, q]
      · rw [cp_u_at, if_neg (by omega)]
        exact e3 j (by omega)
    · simp [cp_s1_at, cp_nl_int, cp_nl_ref, l0]
    · simp [cp_s1_at, cp_nl_int, cp_nl_ref, l1]
    · simp [cp_s1_at, cp_nl_int, cp_nl_ref, l2]
    · simp [cp_s1_at, cp_nl_int, cp_nl_ref]
theorem c_Intro_fewestFor {K F : Nat → Nat} {set : Nat} (hc : cT I t n) (hs : set < 64) (hK : cKF I n K F) (h1 : ∀ q, cfw (I t 1) (I 29 set) K F set n (I 28 set) 4 0 = some q → Q (some (.int (nI q.1))) SH (imk n I K (ieF (-2) q.2)) J (PP t u r x)) (h0 : cfw (I t 1) (I 29 set) K F set n (I 28 set) 4 0 = none → Q (some (.int (-2))) SH (imk n I K (-2)) J (PP t u r x)) : MW g false (d + 9) 0 0 m_Intro_fewestFor [.ref 40, .ref 15, .int (nI set)] SH I J (PP t u r x) Q := by
  refine MW.of ok_Intro_fewestFor (Nat.le_of_ble_eq_true rfl) ?_
  refine cp_run 20 (fun t => t == 8) ck_Intro_fewestFor ?_
  simp only [cp_vc, cp_vs, cp_jm, cp_ent_en, cp_en_int, cp_en_ref, cp_en_ret, cp_en_long, cp_en_nil, cp_s1_at, cp_s2_at, cp_nl_int, cp_nl_ref, cp_nl_long, cp_nl_none, cp_pop_0, cp_pop_s, reduceIte, if_true, if_false, Bool.false_eq_true, Bool.true_eq_false, false_implies, implies_true, forall_const, true_implies, true_and, and_true, and_self, true_or, or_true, false_or, or_false, Value.category, List.length_cons, List.length_nil, Option.toList_some, Option.toList_none, List.cons_append, List.nil_append, List.append_nil, Prod.mk.injEq, Nat.add_zero, Nat.zero_add, Nat.reduceAdd, Nat.reduceSub, Nat.reduceEqDiff, Nat.reduceLeDiff, Nat.reduceLT, Nat.le_refl, beq_self_eq_true, Nat.reduceBEq, ne_eq, not_true_eq_false, not_false_eq_true, Int32.reduceAdd, Int32.reduceSub, Int32.reduceMul, Int32.reduceLE, Int32.reduceLT, Int32.reduceToNatClampNeg, b01_0, b01_1, ne_2_0, ne_3_0, ne_4_0, ne_5_0, ne_6_0, ne_m1_0, ne_m2_0, b01_01, b01_n, lt_m2, lt_m1, le_m2, le_m1, Classical.not_not, j_Intro_fewestFor_0, b_Intro_fewestFor_0, j_Intro_fewestFor_8, b_Intro_fewestFor_8, j_Intro_fewestFor_37, b_Intro_fewestFor_37, j_Intro_fewestFor_39, b_Intro_fewestFor_39, j_Intro_fewestFor_62, b_Intro_fewestFor_62, j_Intro_fewestFor_68, b_Intro_fewestFor_68, an_0, an_1, an_3, cl_0, cl_3, ne_0_1, ne_0_3, ne_0_m2, ne_1_0, ne_1_3, ne_1_m2, ne_3_0, ne_3_1, ne_3_m2, ne_m2_0, ne_m2_1, ne_m2_3, pp_15_0, pp_15_4, pp_15_6, pp_40_0, sh_15, sh_26, sh_28, sh_40, sh_41, vi_0, vi_3]
  refine lp_Intro_ff8 (set := set) hc hK ?_ n 0 _ _ (by omega) ?_ ?_ ?_ ?_ ?_ ?_ ?_
  · intro L l0 l1 l2
    refine cp_run 20 (fun t => t == 39) ck_Intro_fewestFor ?_
    simp only [cp_vc, cp_vs, cp_jm, cp_ent_en, cp_en_int, cp_en_ref, cp_en_ret, cp_en_long, cp_en_nil, cp_s1_at, cp_s2_at, cp_nl_int, cp_nl_ref, cp_nl_long, cp_nl_none, cp_pop_0, cp_pop_s, reduceIte, if_true, if_false, Bool.false_eq_true, Bool.true_eq_false, false_implies, implies_true, forall_const, true_implies, true_and, and_true, and_self, true_or, or_true, false_or, or_false, Value.category, List.length_cons, List.length_nil, Option.toList_some, Option.toList_none, List.cons_append, List.nil_append, List.append_nil, Prod.mk.injEq, Nat.add_zero, Nat.zero_add, Nat.reduceAdd, Nat.reduceSub, Nat.reduceEqDiff, Nat.reduceLeDiff, Nat.reduceLT, Nat.le_refl, beq_self_eq_true, Nat.reduceBEq, ne_eq, not_true_eq_false, not_false_eq_true, Int32.reduceAdd, Int32.reduceSub, Int32.reduceMul, Int32.reduceLE, Int32.reduceLT, Int32.reduceToNatClampNeg, b01_0, b01_1, ne_2_0, ne_3_0, ne_4_0, ne_5_0, ne_6_0, ne_m1_0, ne_m2_0, b01_01, b01_n, lt_m2, lt_m1, le_m2, le_m1, Classical.not_not, j_Intro_fewestFor_0, b_Intro_fewestFor_0, j_Intro_fewestFor_8, b_Intro_fewestFor_8, j_Intro_fewestFor_37, b_Intro_fewestFor_37, j_Intro_fewestFor_62, b_Intro_fewestFor_62, j_Intro_fewestFor_68, b_Intro_fewestFor_68, an_0, an_1, an_3, cl_0, cl_3, ne_0_1, ne_0_3, ne_0_m2, ne_1_0, ne_1_3, ne_1_m2, ne_3_0, ne_3_1, ne_3_m2, ne_m2_0, ne_m2_1, ne_m2_3, pp_15_0, pp_15_4, pp_15_6, pp_40_0, sh_15, sh_26, sh_28, sh_40, sh_41, vi_0, vi_3, l0, l1, l2]
    refine lp_Intro_ff39 hc hs hK 4 0 _ (by omega) ?_ ?_ ?_ ?_ h1 h0 <;> simp [cp_s1_at, cp_nl_int, cp_nl_ref, l0, l1, l2, nI_0]
  · intro a j _ h2
    rw [cp_u_at, if_neg h2]
  · simp [cp_u_at]
  · intro j hj
    omega
  · simp [cp_s1_at, cp_ent_en, cp_en_ref, cp_nl_ref]
  · simp [cp_s1_at, cp_ent_en, cp_en_ref, cp_nl_ref]
  · simp [cp_s1_at, cp_ent_en, cp_en_ref, cp_en_int, cp_nl_int]
  · simp [cp_s1_at, nI_0]
theorem imk_1 {kk : Nat → Nat} {v : Int32} : imk n I kk v 40 1 = v := by
  unfold imk
  rw [if_neg (by omega), if_pos ⟨rfl, rfl⟩]
theorem c_Intro_firstFor {K F : Nat → Nat} {set : Nat} (hc : cT I t n) (hs : set < 64) (hK : cKF I n K F) (h1 : ∀ q, cfw (I t 1) (I 29 set) K F set n (I 28 set) 4 0 = some q → Q (some (.int (ieF (-2) q.2))) SH (imk n I K (ieF (-2) q.2)) J (PP t u r x)) (h0 : cfw (I t 1) (I 29 set) K F set n (I 28 set) 4 0 = none → Q (some (.int (-2))) SH (imk n I K (-2)) J (PP t u r x)) : MW g false (d + 10) 0 0 m_Intro_firstFor [.ref 40, .ref 15, .int (nI set)] SH I J (PP t u r x) Q := by
  refine MW.of ok_Intro_firstFor (Nat.le_of_ble_eq_true rfl) ?_
  refine cp_run 20 (fun _ => false) ck_Intro_firstFor ?_
  simp only [cp_vc, cp_vs, cp_jm, cp_ent_en, cp_en_int, cp_en_ref, cp_en_ret, cp_en_long, cp_en_nil, cp_s1_at, cp_s2_at, cp_nl_int, cp_nl_ref, cp_nl_long, cp_nl_none, cp_pop_0, cp_pop_s, reduceIte, if_true, if_false, Bool.false_eq_true, Bool.true_eq_false, false_implies, implies_true, forall_const, true_implies, true_and, and_true, and_self, true_or, or_true, false_or, or_false, Value.category, List.length_cons, List.length_nil, Option.toList_some, Option.toList_none, List.cons_append, List.nil_append, List.append_nil, Prod.mk.injEq, Nat.add_zero, Nat.zero_add, Nat.reduceAdd, Nat.reduceSub, Nat.reduceEqDiff, Nat.reduceLeDiff, Nat.reduceLT, Nat.le_refl, beq_self_eq_true, Nat.reduceBEq, ne_eq, not_true_eq_false, not_false_eq_true, Int32.reduceAdd, Int32.reduceSub, Int32.reduceMul, Int32.reduceLE, Int32.reduceLT, Int32.reduceToNatClampNeg, b01_0, b01_1, ne_2_0, ne_3_0, ne_4_0, ne_5_0, ne_6_0, ne_m1_0, ne_m2_0, b01_01, b01_n, lt_m2, lt_m1, le_m2, le_m1, Classical.not_not, j_Intro_firstFor_0, b_Intro_firstFor_0, an_0, an_1, ne_0_1, ne_1_0, sh_40]
  refine c_Intro_fewestFor hc hs hK ?_ ?_
  · intro q hq
    simp only [cp_kk, cp_vc, cp_vs, cp_jm, cp_ent_en, cp_en_int, cp_en_ref, cp_en_ret, cp_en_long, cp_en_nil, cp_s1_at, cp_s2_at, cp_nl_int, cp_nl_ref, cp_nl_long, cp_nl_none, cp_pop_0, cp_pop_s, reduceIte, if_true, if_false, Bool.false_eq_true, Bool.true_eq_false, false_implies, implies_true, forall_const, true_implies, true_and, and_true, and_self, true_or, or_true, false_or, or_false, Value.category, List.length_cons, List.length_nil, Option.toList_some, Option.toList_none, List.cons_append, List.nil_append, List.append_nil, Prod.mk.injEq, Nat.add_zero, Nat.zero_add, Nat.reduceAdd, Nat.reduceSub, Nat.reduceEqDiff, Nat.reduceLeDiff, Nat.reduceLT, Nat.le_refl, beq_self_eq_true, Nat.reduceBEq, ne_eq, not_true_eq_false, not_false_eq_true, Int32.reduceAdd, Int32.reduceSub, Int32.reduceMul, Int32.reduceLE, Int32.reduceLT, Int32.reduceToNatClampNeg, b01_0, b01_1, ne_2_0, ne_3_0, ne_4_0, ne_5_0, ne_6_0, ne_m1_0, ne_m2_0, b01_01, b01_n, lt_m2, lt_m1, le_m2, le_m1, Classical.not_not, Bool.or_false, Bool.false_or, Bool.true_or, Bool.or_true, j_Intro_firstFor_0, b_Intro_firstFor_0, an_0, an_1, ne_0_1, ne_1_0, sh_40, imk_1]
    exact h1 q hq
  · intro hq
    simp only [cp_kk, cp_vc, cp_vs, cp_jm, cp_ent_en, cp_en_int, cp_en_ref, cp_en_ret, cp_en_long, cp_en_nil, cp_s1_at, cp_s2_at, cp_nl_int, cp_nl_ref, cp_nl_long, cp_nl_none, cp_pop_0, cp_pop_s, reduceIte, if_true, if_false, Bool.false_eq_true, Bool.true_eq_false, false_implies, implies_true, forall_const, true_implies, true_and, and_true, and_self, true_or, or_true, false_or, or_false, Value.category, List.length_cons, List.length_nil, Option.toList_some, Option.toList_none, List.cons_append, List.nil_append, List.append_nil, Prod.mk.injEq, Nat.add_zero, Nat.zero_add, Nat.reduceAdd, Nat.reduceSub, Nat.reduceEqDiff, Nat.reduceLeDiff, Nat.reduceLT, Nat.le_refl, beq_self_eq_true, Nat.reduceBEq, ne_eq, not_true_eq_false, not_false_eq_true, Int32.reduceAdd, Int32.reduceSub, Int32.reduceMul, Int32.reduceLE, Int32.reduceLT, Int32.reduceToNatClampNeg, b01_0, b01_1, ne_2_0, ne_3_0, ne_4_0, ne_5_0, ne_6_0, ne_m1_0, ne_m2_0, b01_01, b01_n, lt_m2, lt_m1, le_m2, le_m1, Classical.not_not, Bool.or_false, Bool.false_or, Bool.true_or, Bool.or_true, j_Intro_firstFor_0, b_Intro_firstFor_0, an_0, an_1, ne_0_1, ne_1_0, sh_40, imk_1]
    exact h0 hq
/-! the history -/
theorem c_Hist_forget (h : Q none SH (cp_u (cp_u I 30 7 0) 30 8 0) J (PP t u r x)) : MW g false (d + 1) 0 0 m_Hist_forget [.ref 30] SH I J (PP t u r x) Q := by
  refine MW.of ok_Hist_forget (Nat.le_of_ble_eq_true rfl) ?_
  refine cp_run 20 (fun _ => false) ck_Hist_forget ?_
  simp only [cp_vc, cp_vs, cp_jm, cp_ent_en, cp_en_int, cp_en_ref, cp_en_ret, cp_en_long, cp_en_nil, cp_s1_at, cp_s2_at, cp_nl_int, cp_nl_ref, cp_nl_long, cp_nl_none, cp_pop_0, cp_pop_s, reduceIte, if_true, if_false, Bool.false_eq_true, Bool.true_eq_false, false_implies, implies_true, forall_const, true_implies, true_and, and_true, and_self, true_or, or_true, false_or, or_false, Value.category, List.length_cons, List.length_nil, Option.toList_some, Option.toList_none, List.cons_append, List.nil_append, List.append_nil, Prod.mk.injEq, Nat.add_zero, Nat.zero_add, Nat.reduceAdd, Nat.reduceSub, Nat.reduceEqDiff, Nat.reduceLeDiff, Nat.reduceLT, Nat.le_refl, beq_self_eq_true, Nat.reduceBEq, ne_eq, not_true_eq_false, not_false_eq_true, Int32.reduceAdd, Int32.reduceSub, Int32.reduceMul, Int32.reduceLE, Int32.reduceLT, Int32.reduceToNatClampNeg, b01_0, b01_1, ne_2_0, ne_3_0, ne_4_0, ne_5_0, ne_6_0, ne_m1_0, ne_m2_0, b01_01, b01_n, lt_m2, lt_m1, le_m2, le_m1, Classical.not_not, j_Hist_forget_0, b_Hist_forget_0, an_0, an_1, cl_0, ne_0_1, ne_1_0, sh_30, vi_0]
  exact h
def kpM (I : cp_I) (p q : Nat) : cp_I := cp_u (cp_u (cp_u (cp_u (cp_u I 31 p (I 15 1)) 32 p (I 15 2)) 33 p (I 15 3)) 30 6 (nI ((p + 1) % 16))) 30 7 (nI (min 16 (q + 1)))
theorem c_Hist_keep {p q : Nat} (hp : p < 16) (hq : q ≤ 16) (h6 : I 30 6 = nI p) (h7 : I 30 7 = nI q) (h : Q none SH (kpM I p q) J (PP t u r x)) : MW g false (d + 1) 0 0 m_Hist_keep [.ref 30, .ref 15] SH I J (PP t u r x) Q := by
  have e1 : nI (p + 1) - nI (p + 1) / 16 * 16 = nI ((p + 1) % 16) := pk_rem (d := 16) (by omega) (by omega) (by omega)
  have z16 : ¬ (16 : Int32) = 0 := by decide +kernel
  have e2 : (if nI (q + 1) < 16 then nI (q + 1) else 16) = nI (min 16 (q + 1)) := by
    have : (nI (q + 1) < 16) = (q + 1 < 16) := ltN (b := 16) (by omega) (by omega)
    simp only [this]
    split
    · rw [Nat.min_eq_right (by omega)]
    · rw [Nat.min_eq_left (by omega)]
      rfl
  refine MW.of ok_Hist_keep (Nat.le_of_ble_eq_true rfl) ?_
  refine cp_run 60 (fun _ => false) ck_Hist_keep ?_
  simp only [cp_vc, cp_vs, cp_jm, cp_ent_en, cp_en_int, cp_en_ref, cp_en_ret, cp_en_long, cp_en_nil, cp_s1_at, cp_s2_at, cp_nl_int, cp_nl_ref, cp_nl_long, cp_nl_none, cp_pop_0, cp_pop_s, reduceIte, if_true, if_false, Bool.false_eq_true, Bool.true_eq_false, false_implies, implies_true, forall_const, true_implies, true_and, and_true, and_self, true_or, or_true, false_or, or_false, Value.category, List.length_cons, List.length_nil, Option.toList_some, Option.toList_none, List.cons_append, List.nil_append, List.append_nil, Prod.mk.injEq, Nat.add_zero, Nat.zero_add, Nat.reduceAdd, Nat.reduceSub, Nat.reduceEqDiff, Nat.reduceLeDiff, Nat.reduceLT, Nat.le_refl, beq_self_eq_true, Nat.reduceBEq, ne_eq, not_true_eq_false, not_false_eq_true, Int32.reduceAdd, Int32.reduceSub, Int32.reduceMul, Int32.reduceLE, Int32.reduceLT, Int32.reduceToNatClampNeg, b01_0, b01_1, ne_2_0, ne_3_0, ne_4_0, ne_5_0, ne_6_0, ne_m1_0, ne_m2_0, b01_01, b01_n, lt_m2, lt_m1, le_m2, le_m1, Classical.not_not, j_Hist_keep_0, b_Hist_keep_0, an_0, an_1, an_16, cl_1, cl_16, ne_0_1, ne_1_0, pp_30_0, pp_30_1, pp_30_2, sh_15, sh_30, sh_31, sh_32, sh_33, vi_1, vi_16, sh_15, cp_u_at, false_and, h6, h7, vin hp (by omega), ncl (show p < 1000 by omega), nI_1, e1, z16, e2]
  exact h
/-- the memory before stepBack settles -/
def sbM (I : cp_I) (p q : Nat) : cp_I := cp_u (cp_u I 30 7 (nI (q - 1))) 30 6 (nI ((p + 15) % 16))
theorem cT_o {M : cp_I} (hc : cT I t n) (e : ∀ k j, k ≤ 9 → M (t + k) j = I (t + k) j) : cT M t n := by
  obtain ⟨ht, hn6, hn, he⟩ := hc
  have e0 := e 0 4 (by omega)
  rw [Nat.add_zero] at e0
  exact ⟨ht, hn6, by rw [e0]; exact hn, fun b hb => by rw [e 3 b (by omega)]; exact he b hb⟩
theorem bOK_o {M : cp_I} {m : Nat} (h : bOK I t n m) (e : ∀ k j, k ≤ 9 → M (t + k) j = I (t + k) j) (e' : ∀ a j, 26 ≤ a → a ≤ 29 → M a j = I a j) : bOK M t n m := by
  have e1 : ctm M t m = ctm I t m := by
    funext i j
    unfold ctm
    rw [e 4 _ (by omega)]
  have e2 : cn M t = cn I t := by
    funext i
    unfold cn
    rw [e 2 _ (by omega), e 3 _ (by omega)]
  have z0 := e 0 0 (by omega)
  have z1 := e 0 1 (by omega)
  rw [Nat.add_zero] at z0 z1
  unfold bOK bUp cK cF at *
  rw [e1, e2, z0, z1]
  refine ⟨fun i hi => ?_, fun s hs => ?_⟩
  · rw [e' 26 i (by omega) (by omega), e' 27 i (by omega) (by omega)]
    exact h.1 i hi
  · rw [e' 28 s (by omega) (by omega), e' 29 s (by omega) (by omega)]
    exact h.2 s hs
theorem c_Hist_stepBack {p q m m' : Nat} (hc : cT I t n) (hm : I 15 2 = nI m) (hm30 : m < 2 ^ 30) (hB : bOK I t n m) (hp : p < 16) (hq : q ≤ 16) (h6 : I 30 6 = nI p) (h7 : I 30 7 = nI q) (hm' : 0 < q → I 32 ((p + 15) % 16) = nI m' ∧ m' < 2 ^ 30)
    (h1 : 0 < q → ∀ M : cp_I, stF (sbM I p q) M → M 15 1 = I 31 ((p + 15) % 16) → M 15 2 = nI m' → M 15 3 = I 33 ((p + 15) % 16) → bOK M t n m' → Q (some (.int 1)) SH M J (PP t u r x)) (h0 : q = 0 → Q (some (.int 0)) SH I J (PP t u r x)) : MW g false (d + 6) 0 0 m_Hist_stepBack [.ref 30, .ref 15] SH I J (PP t u r x) Q := by
  have ht := hc.1
  refine MW.of ok_Hist_stepBack (Nat.le_of_ble_eq_true rfl) ?_
  by_cases c : q = 0
  · subst c
    refine cp_run 20 (fun _ => false) ck_Hist_stepBack ?_
    simp only [cp_vc, cp_vs, cp_jm, cp_ent_en, cp_en_int, cp_en_ref, cp_en_ret, cp_en_long, cp_en_nil, cp_s1_at, cp_s2_at, cp_nl_int, cp_nl_ref, cp_nl_long, cp_nl_none, cp_pop_0, cp_pop_s, reduceIte, if_true, if_false, Bool.false_eq_true, Bool.true_eq_false, false_implies, implies_true, forall_const, true_implies, true_and, and_true, and_self, true_or, or_true, false_or, or_false, Value.category, List.length_cons, List.length_nil, Option.toList_some, Option.toList_none, List.cons_append, List.nil_append, List.append_nil, Prod.mk.injEq, Nat.add_zero, Nat.zero_add, Nat.reduceAdd, Nat.reduceSub, Nat.reduceEqDiff, Nat.reduceLeDiff, Nat.reduceLT, Nat.le_refl, beq_self_eq_true, Nat.reduceBEq, ne_eq, not_true_eq_false, not_false_eq_true, Int32.reduceAdd, Int32.reduceSub, Int32.reduceMul, Int32.reduceLE, Int32.reduceLT, Int32.reduceToNatClampNeg, b01_0, b01_1, ne_2_0, ne_3_0, ne_4_0, ne_5_0, ne_6_0, ne_m1_0, ne_m2_0, b01_01, b01_n, lt_m2, lt_m1, le_m2, le_m1, Classical.not_not, j_Hist_stepBack_0, b_Hist_stepBack_0, j_Hist_stepBack_9, b_Hist_stepBack_9, an_0, an_1, an_16, cl_0, cl_1, cl_16, ne_0_1, ne_1_0, pp_30_0, pp_30_1, pp_30_2, sh_15, sh_30, sh_31, sh_32, sh_33, vi_0, vi_1, vi_16, h7, nI_0]
    exact h0 rfl
  · have c7 : ¬ nI q = 0 := nI_ne0 (by omega) (by omega)
    have e1 : nI q - 1 = nI (q - 1) := pk_sub (b := 1) (by omega)
    have e2 : nI p + 16 - 1 - (nI p + 16 - 1) / 16 * 16 = nI ((p + 15) % 16) := by
      have : nI p + 16 - 1 = nI (p + 15) := by
        rw [show (16 : Int32) = nI 16 from rfl, nI_add]
        exact nI_pred (p + 15)
      rw [this]
      exact pk_rem (d := 16) (by omega) (by omega) (by omega)
    have z16 : ¬ (16 : Int32) = 0 := by decide +kernel
    obtain ⟨k1, k2⟩ := hm' (by omega)
    have hlt : (p + 15) % 16 < 16 := Nat.mod_lt _ (by omega)
    have a3 : ∀ c j, c = 31 ∨ c = 32 ∨ c = 33 → sbM I p q c j = I c j := by
      intro c j hc
      unfold sbM
      rw [cp_u_at, if_neg (by omega), cp_u_at, if_neg (by omega)]
    have tt : ∀ k j, k ≤ 9 → sbM I p q (t + k) j = I (t + k) j := by
      intro k j hk
      have : t + k ≠ 30 := by rcases ht with rfl | rfl <;> omega
      unfold sbM
      rw [cp_u_at, if_neg (fun z => this z.1), cp_u_at, if_neg (fun z => this z.1)]
    have es : cp_u (cp_u I 30 7 (nI (q - 1))) 30 6 (nI ((p + 15) % 16)) = sbM I p q := rfl
    refine cp_run 60 (fun _ => false) ck_Hist_stepBack ?_
    simp only [cp_vc, cp_vs, cp_jm, cp_ent_en, cp_en_int, cp_en_ref, cp_en_ret, cp_en_long, cp_en_nil, cp_s1_at, cp_s2_at, cp_nl_int, cp_nl_ref, cp_nl_long, cp_nl_none, cp_pop_0, cp_pop_s, reduceIte, if_true, if_false, Bool.false_eq_true, Bool.true_eq_false, false_implies, implies_true, forall_const, true_implies, true_and, and_true, and_self, true_or, or_true, false_or, or_false, Value.category, List.length_cons, List.length_nil, Option.toList_some, Option.toList_none, List.cons_append, List.nil_append, List.append_nil, Prod.mk.injEq, Nat.add_zero, Nat.zero_add, Nat.reduceAdd, Nat.reduceSub, Nat.reduceEqDiff, Nat.reduceLeDiff, Nat.reduceLT, Nat.le_refl, beq_self_eq_true, Nat.reduceBEq, ne_eq, not_true_eq_false, not_false_eq_true, Int32.reduceAdd, Int32.reduceSub, Int32.reduceMul, Int32.reduceLE, Int32.reduceLT, Int32.reduceToNatClampNeg, b01_0, b01_1, ne_2_0, ne_3_0, ne_4_0, ne_5_0, ne_6_0, ne_m1_0, ne_m2_0, b01_01, b01_n, lt_m2, lt_m1, le_m2, le_m1, Classical.not_not, j_Hist_stepBack_0, b_Hist_stepBack_0, j_Hist_stepBack_9, b_Hist_stepBack_9, an_0, an_1, an_16, cl_0, cl_1, cl_16, ne_0_1, ne_1_0, pp_30_0, pp_30_1, pp_30_2, sh_15, sh_30, sh_31, sh_32, sh_33, vi_0, vi_1, vi_16, sh_15, cp_u_at, false_and, h6, h7, c7, e1, e2, z16, vin hlt (by omega), ncl (show (p + 15) % 16 < 1000 by omega), k1]
    rw [es]
    refine c_Bath_settle (m := m) (m' := m') (cT_o hc tt) ?_ hm30 k2 (bOK_o hB tt ?_) ?_
    · unfold sbM
      rw [cp_u_at, if_neg (by omega), cp_u_at, if_neg (by omega)]
      exact hm
    · intro a j ha1 ha2
      unfold sbM
      rw [cp_u_at, if_neg (by omega), cp_u_at, if_neg (by omega)]
    · intro M s1 s2 s3 s4 s5
      simp only [cp_kk, cp_vc, cp_vs, cp_jm, cp_ent_en, cp_en_int, cp_en_ref, cp_en_ret, cp_en_long, cp_en_nil, cp_s1_at, cp_s2_at, cp_nl_int, cp_nl_ref, cp_nl_long, cp_nl_none, cp_pop_0, cp_pop_s, reduceIte, if_true, if_false, Bool.false_eq_true, Bool.true_eq_false, false_implies, implies_true, forall_const, true_implies, true_and, and_true, and_self, true_or, or_true, false_or, or_false, Value.category, List.length_cons, List.length_nil, Option.toList_some, Option.toList_none, List.cons_append, List.nil_append, List.append_nil, Prod.mk.injEq, Nat.add_zero, Nat.zero_add, Nat.reduceAdd, Nat.reduceSub, Nat.reduceEqDiff, Nat.reduceLeDiff, Nat.reduceLT, Nat.le_refl, beq_self_eq_true, Nat.reduceBEq, ne_eq, not_true_eq_false, not_false_eq_true, Int32.reduceAdd, Int32.reduceSub, Int32.reduceMul, Int32.reduceLE, Int32.reduceLT, Int32.reduceToNatClampNeg, b01_0, b01_1, ne_2_0, ne_3_0, ne_4_0, ne_5_0, ne_6_0, ne_m1_0, ne_m2_0, b01_01, b01_n, lt_m2, lt_m1, le_m2, le_m1, Classical.not_not, Bool.or_false, Bool.false_or, Bool.true_or, Bool.or_true, j_Hist_stepBack_0, b_Hist_stepBack_0, j_Hist_stepBack_9, b_Hist_stepBack_9, an_0, an_1, an_16, cl_0, cl_1, cl_16, ne_0_1, ne_1_0, pp_30_0, pp_30_1, pp_30_2, sh_15, sh_30, sh_31, sh_32, sh_33, vi_0, vi_1, vi_16]
      exact h1 (by omega) M s1 s2 s3 s4 s5
def tiM (I : cp_I) (q : Nat) : cp_I := cp_u (cp_u (cp_u (cp_u I 34 q (I 15 1)) 35 q (I 15 2)) 36 q (I 15 3)) 30 8 (nI (q + 1))
theorem c_Hist_takeImage {q : Nat} (hq : q ≤ 3) (h8 : I 30 8 = nI q) (h1 : q < 3 → Q (some (.int (nI q))) SH (tiM I q) J (PP t u r x)) (h0 : q = 3 → Q (some (.int (-2))) SH I J (PP t u r x)) : MW g false (d + 1) 0 0 m_Hist_takeImage [.ref 30, .ref 15] SH I J (PP t u r x) Q := by
  have e3 : (nI q < 3) = (q < 3) := ltN (b := 3) (by omega) (by omega)
  refine MW.of ok_Hist_takeImage (Nat.le_of_ble_eq_true rfl) ?_
  by_cases c : q < 3
  · refine cp_run 60 (fun _ => false) ck_Hist_takeImage ?_
    simp only [cp_vc, cp_vs, cp_jm, cp_ent_en, cp_en_int, cp_en_ref, cp_en_ret, cp_en_long, cp_en_nil, cp_s1_at, cp_s2_at, cp_nl_int, cp_nl_ref, cp_nl_long, cp_nl_none, cp_pop_0, cp_pop_s, reduceIte, if_true, if_false, Bool.false_eq_true, Bool.true_eq_false, false_implies, implies_true, forall_const, true_implies, true_and, and_true, and_self, true_or, or_true, false_or, or_false, Value.category, List.length_cons, List.length_nil, Option.toList_some, Option.toList_none, List.cons_append, List.nil_append, List.append_nil, Prod.mk.injEq, Nat.add_zero, Nat.zero_add, Nat.reduceAdd, Nat.reduceSub, Nat.reduceEqDiff, Nat.reduceLeDiff, Nat.reduceLT, Nat.le_refl, beq_self_eq_true, Nat.reduceBEq, ne_eq, not_true_eq_false, not_false_eq_true, Int32.reduceAdd, Int32.reduceSub, Int32.reduceMul, Int32.reduceLE, Int32.reduceLT, Int32.reduceToNatClampNeg, b01_0, b01_1, ne_2_0, ne_3_0, ne_4_0, ne_5_0, ne_6_0, ne_m1_0, ne_m2_0, b01_01, b01_n, lt_m2, lt_m1, le_m2, le_m1, Classical.not_not, j_Hist_takeImage_0, b_Hist_takeImage_0, j_Hist_takeImage_11, b_Hist_takeImage_11, an_0, an_1, an_3, cl_1, cl_3, ne_0_1, ne_0_3, ne_0_m2, ne_1_0, ne_1_3, ne_1_m2, ne_3_0, ne_3_1, ne_3_m2, ne_m2_0, ne_m2_1, ne_m2_3, pp_30_3, pp_30_4, pp_30_5, sh_15, sh_30, sh_34, sh_35, sh_36, vi_1, vi_3, sh_15, cp_u_at, false_and, h8, e3, c, vin c (by omega), ncl (show q < 1000 by omega), nI_1, nI_pred]
    exact h1 c
  · refine cp_run 60 (fun _ => false) ck_Hist_takeImage ?_
    simp only [cp_vc, cp_vs, cp_jm, cp_ent_en, cp_en_int, cp_en_ref, cp_en_ret, cp_en_long, cp_en_nil, cp_s1_at, cp_s2_at, cp_nl_int, cp_nl_ref, cp_nl_long, cp_nl_none, cp_pop_0, cp_pop_s, reduceIte, if_true, if_false, Bool.false_eq_true, Bool.true_eq_false, false_implies, implies_true, forall_const, true_implies, true_and, and_true, and_self, true_or, or_true, false_or, or_false, Value.category, List.length_cons, List.length_nil, Option.toList_some, Option.toList_none, List.cons_append, List.nil_append, List.append_nil, Prod.mk.injEq, Nat.add_zero, Nat.zero_add, Nat.reduceAdd, Nat.reduceSub, Nat.reduceEqDiff, Nat.reduceLeDiff, Nat.reduceLT, Nat.le_refl, beq_self_eq_true, Nat.reduceBEq, ne_eq, not_true_eq_false, not_false_eq_true, Int32.reduceAdd, Int32.reduceSub, Int32.reduceMul, Int32.reduceLE, Int32.reduceLT, Int32.reduceToNatClampNeg, b01_0, b01_1, ne_2_0, ne_3_0, ne_4_0, ne_5_0, ne_6_0, ne_m1_0, ne_m2_0, b01_01, b01_n, lt_m2, lt_m1, le_m2, le_m1, Classical.not_not, j_Hist_takeImage_0, b_Hist_takeImage_0, j_Hist_takeImage_11, b_Hist_takeImage_11, an_0, an_1, an_3, cl_1, cl_3, ne_0_1, ne_0_3, ne_0_m2, ne_1_0, ne_1_3, ne_1_m2, ne_3_0, ne_3_1, ne_3_m2, ne_m2_0, ne_m2_1, ne_m2_3, pp_30_3, pp_30_4, pp_30_5, sh_15, sh_30, sh_34, sh_35, sh_36, vi_1, vi_3, h8, e3, c]
    exact h0 (by omega)
theorem c_Hist_goTo {q m m' : Nat} {i : Int32} (hc : cT I t n) (hm : I 15 2 = nI m) (hm30 : m < 2 ^ 30) (hB : bOK I t n m) (hq : q ≤ 3) (h8 : I 30 8 = nI q) (hm' : ∀ k, k < q → i = nI k → I 35 k = nI m' ∧ m' < 2 ^ 30)
    (h1 : ∀ k, k < q → i = nI k → ∀ M : cp_I, stF I M → M 15 1 = I 34 k → M 15 2 = nI m' → M 15 3 = I 36 k → bOK M t n m' → Q (some (.int 1)) SH (cp_u M 30 7 0) J (PP t u r x)) (h0 : ¬ (∃ k, k < q ∧ i = nI k) → Q (some (.int 0)) SH I J (PP t u r x)) : MW g false (d + 6) 0 0 m_Hist_goTo [.ref 30, .ref 15, .int i] SH I J (PP t u r x) Q := by
  refine MW.of ok_Hist_goTo (Nat.le_of_ble_eq_true rfl) ?_
  by_cases c0 : i < 0
  · refine cp_run 20 (fun _ => false) ck_Hist_goTo ?_
    simp only [cp_vc, cp_vs, cp_jm, cp_ent_en, cp_en_int, cp_en_ref, cp_en_ret, cp_en_long, cp_en_nil, cp_s1_at, cp_s2_at, cp_nl_int, cp_nl_ref, cp_nl_long, cp_nl_none, cp_pop_0, cp_pop_s, reduceIte, if_true, if_false, Bool.false_eq_true, Bool.true_eq_false, false_implies, implies_true, forall_const, true_implies, true_and, and_true, and_self, true_or, or_true, false_or, or_false, Value.category, List.length_cons, List.length_nil, Option.toList_some, Option.toList_none, List.cons_append, List.nil_append, List.append_nil, Prod.mk.injEq, Nat.add_zero, Nat.zero_add, Nat.reduceAdd, Nat.reduceSub, Nat.reduceEqDiff, Nat.reduceLeDiff, Nat.reduceLT, Nat.le_refl, beq_self_eq_true, Nat.reduceBEq, ne_eq, not_true_eq_false, not_false_eq_true, Int32.reduceAdd, Int32.reduceSub, Int32.reduceMul, Int32.reduceLE, Int32.reduceLT, Int32.reduceToNatClampNeg, b01_0, b01_1, ne_2_0, ne_3_0, ne_4_0, ne_5_0, ne_6_0, ne_m1_0, ne_m2_0, b01_01, b01_n, lt_m2, lt_m1, le_m2, le_m1, Classical.not_not, j_Hist_goTo_0, b_Hist_goTo_0, j_Hist_goTo_12, b_Hist_goTo_12, j_Hist_goTo_14, b_Hist_goTo_14, an_0, an_1, cl_0, cl_1, ne_0_1, ne_1_0, pp_30_3, pp_30_4, pp_30_5, sh_15, sh_30, sh_34, sh_35, sh_36, vi_0, vi_1, c0]
    refine h0 (fun z => ?_)
    obtain ⟨k, hk, rfl⟩ := z
    exact nI_pos (by omega) c0
  · obtain ⟨k, hk, rfl⟩ := nI_of c0
    have e : (nI k < nI q) = (k < q) := propext (nI_ltI hk (by omega))
    by_cases c : k < q
    · obtain ⟨k1, k2⟩ := hm' k c rfl
      refine cp_run 40 (fun _ => false) ck_Hist_goTo ?_
      simp only [cp_vc, cp_vs, cp_jm, cp_ent_en, cp_en_int, cp_en_ref, cp_en_ret, cp_en_long, cp_en_nil, cp_s1_at, cp_s2_at, cp_nl_int, cp_nl_ref, cp_nl_long, cp_nl_none, cp_pop_0, cp_pop_s, reduceIte, if_true, if_false, Bool.false_eq_true, Bool.true_eq_false, false_implies, implies_true, forall_const, true_implies, true_and, and_true, and_self, true_or, or_true, false_or, or_false, Value.category, List.length_cons, List.length_nil, Option.toList_some, Option.toList_none, List.cons_append, List.nil_append, List.append_nil, Prod.mk.injEq, Nat.add_zero, Nat.zero_add, Nat.reduceAdd, Nat.reduceSub, Nat.reduceEqDiff, Nat.reduceLeDiff, Nat.reduceLT, Nat.le_refl, beq_self_eq_true, Nat.reduceBEq, ne_eq, not_true_eq_false, not_false_eq_true, Int32.reduceAdd, Int32.reduceSub, Int32.reduceMul, Int32.reduceLE, Int32.reduceLT, Int32.reduceToNatClampNeg, b01_0, b01_1, ne_2_0, ne_3_0, ne_4_0, ne_5_0, ne_6_0, ne_m1_0, ne_m2_0, b01_01, b01_n, lt_m2, lt_m1, le_m2, le_m1, Classical.not_not, j_Hist_goTo_0, b_Hist_goTo_0, j_Hist_goTo_12, b_Hist_goTo_12, j_Hist_goTo_14, b_Hist_goTo_14, an_0, an_1, cl_0, cl_1, ne_0_1, ne_1_0, pp_30_3, pp_30_4, pp_30_5, sh_15, sh_30, sh_34, sh_35, sh_36, vi_0, vi_1, c0, h8, e, c, vin (show k < 3 by omega) (by omega), ncl (show k < 1000 by omega), k1]
      refine c_Bath_settle (m := m) (m' := m') hc hm hm30 k2 hB ?_
      intro M s1 s2 s3 s4 s5
      simp only [cp_kk, cp_vc, cp_vs, cp_jm, cp_ent_en, cp_en_int, cp_en_ref, cp_en_ret, cp_en_long, cp_en_nil, cp_s1_at, cp_s2_at, cp_nl_int, cp_nl_ref, cp_nl_long, cp_nl_none, cp_pop_0, cp_pop_s, reduceIte, if_true, if_false, Bool.false_eq_true, Bool.true_eq_false, false_implies, implies_true, forall_const, true_implies, true_and, and_true, and_self, true_or, or_true, false_or, or_false, Value.category, List.length_cons, List.length_nil, Option.toList_some, Option.toList_none, List.cons_append, List.nil_append, List.append_nil, Prod.mk.injEq, Nat.add_zero, Nat.zero_add, Nat.reduceAdd, Nat.reduceSub, Nat.reduceEqDiff, Nat.reduceLeDiff, Nat.reduceLT, Nat.le_refl, beq_self_eq_true, Nat.reduceBEq, ne_eq, not_true_eq_false, not_false_eq_true, Int32.reduceAdd, Int32.reduceSub, Int32.reduceMul, Int32.reduceLE, Int32.reduceLT, Int32.reduceToNatClampNeg, b01_0, b01_1, ne_2_0, ne_3_0, ne_4_0, ne_5_0, ne_6_0, ne_m1_0, ne_m2_0, b01_01, b01_n, lt_m2, lt_m1, le_m2, le_m1, Classical.not_not, Bool.or_false, Bool.false_or, Bool.true_or, Bool.or_true, j_Hist_goTo_0, b_Hist_goTo_0, j_Hist_goTo_12, b_Hist_goTo_12, j_Hist_goTo_14, b_Hist_goTo_14, an_0, an_1, cl_0, cl_1, ne_0_1, ne_1_0, pp_30_3, pp_30_4, pp_30_5, sh_15, sh_30, sh_34, sh_35, sh_36, vi_0, vi_1]
      exact h1 k c rfl M s1 s2 s3 s4 s5
    · refine cp_run 40 (fun _ => false) ck_Hist_goTo ?_
      simp only [cp_vc, cp_vs, cp_jm, cp_ent_en, cp_en_int, cp_en_ref, cp_en_ret, cp_en_long, cp_en_nil, cp_s1_at, cp_s2_at, cp_nl_int, cp_nl_ref, cp_nl_long, cp_nl_none, cp_pop_0, cp_pop_s, reduceIte, if_true, if_false, Bool.false_eq_true, Bool.true_eq_false, false_implies, implies_true, forall_const, true_implies, true_and, and_true, and_self, true_or, or_true, false_or, or_false, Value.category, List.length_cons, List.length_nil, Option.toList_some, Option.toList_none, List.cons_append, List.nil_append, List.append_nil, Prod.mk.injEq, Nat.add_zero, Nat.zero_add, Nat.reduceAdd, Nat.reduceSub, Nat.reduceEqDiff, Nat.reduceLeDiff, Nat.reduceLT, Nat.le_refl, beq_self_eq_true, Nat.reduceBEq, ne_eq, not_true_eq_false, not_false_eq_true, Int32.reduceAdd, Int32.reduceSub, Int32.reduceMul, Int32.reduceLE, Int32.reduceLT, Int32.reduceToNatClampNeg, b01_0, b01_1, ne_2_0, ne_3_0, ne_4_0, ne_5_0, ne_6_0, ne_m1_0, ne_m2_0, b01_01, b01_n, lt_m2, lt_m1, le_m2, le_m1, Classical.not_not, j_Hist_goTo_0, b_Hist_goTo_0, j_Hist_goTo_12, b_Hist_goTo_12, j_Hist_goTo_14, b_Hist_goTo_14, an_0, an_1, cl_0, cl_1, ne_0_1, ne_1_0, pp_30_3, pp_30_4, pp_30_5, sh_15, sh_30, sh_34, sh_35, sh_36, vi_0, vi_1, c0, h8, e, c]
      refine h0 (fun z => ?_)
      obtain ⟨j, hj, hj2⟩ := z
      have := (nI_eq hk (by omega)).1 hj2
      omega
end Hist1
