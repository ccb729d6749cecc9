section Mod5
variable {g : cp_G} {d : Nat} {sh : cp_H} {I : cp_I} {J : cp_J} {P : cp_P} {Q : cp_QT} {t u r x : Nat}
theorem ones_nI {s : Nat} (hs : s < 64) : (0 : Int32) + (nI s >>> (0 : Int32) &&& 1) + (nI s >>> (1 : Int32) &&& 1) + (nI s >>> (2 : Int32) &&& 1) + (nI s >>> (3 : Int32) &&& 1) + (nI s >>> (4 : Int32) &&& 1) + (nI s >>> (5 : Int32) &&& 1) + (nI s >>> (6 : Int32) &&& 1) + (nI s >>> (7 : Int32) &&& 1) = nI (card s) := by
  have key : ∀ s : Nat, s < 64 → (0 : Int32) + (nI s >>> (0 : Int32) &&& 1) + (nI s >>> (1 : Int32) &&& 1) + (nI s >>> (2 : Int32) &&& 1) + (nI s >>> (3 : Int32) &&& 1) + (nI s >>> (4 : Int32) &&& 1) + (nI s >>> (5 : Int32) &&& 1) + (nI s >>> (6 : Int32) &&& 1) + (nI s >>> (7 : Int32) &&& 1) = nI (card s) := by decide +kernel
  exact key s hs
set_option maxRecDepth 20000 in
theorem c_Mod_ones {s : Nat} (hs : s < 64) (h : Q (some (.int (nI (card s)))) sh I J P) : MW g false (d + 1) 0 0 m_Mod_ones [.int (nI s)] sh I J P Q := by
  refine MW.of ok_Mod_ones (Nat.le_of_ble_eq_true rfl) ?_
  refine cp_run 200 (fun _ => false) ck_Mod_ones ?_
  simp only [cp_vc, cp_vs, cp_jm, cp_ent_en, cp_en_int, cp_en_ref, cp_en_ret, cp_en_long, cp_en_nil, cp_s1_at, cp_s2_at, cp_nl_int, cp_nl_ref, cp_nl_long, cp_nl_none, cp_pop_0, cp_pop_s, reduceIte, if_true, if_false, Bool.false_eq_true, Bool.true_eq_false, false_implies, implies_true, forall_const, true_implies, true_and, and_true, and_self, true_or, or_true, false_or, or_false, Value.category, List.length_cons, List.length_nil, Option.toList_some, Option.toList_none, List.cons_append, List.nil_append, List.append_nil, Prod.mk.injEq, Nat.add_zero, Nat.zero_add, Nat.reduceAdd, Nat.reduceSub, Nat.reduceEqDiff, Nat.reduceLeDiff, Nat.reduceLT, Nat.le_refl, beq_self_eq_true, Nat.reduceBEq, ne_eq, not_true_eq_false, not_false_eq_true, Int32.reduceAdd, Int32.reduceSub, Int32.reduceMul, Int32.reduceLE, Int32.reduceLT, Int32.reduceToNatClampNeg, b01_0, b01_01, b01_n, lt_m2, lt_m1, le_m2, le_m1, Classical.not_not, j_Mod_ones_0, b_Mod_ones_0, j_Mod_ones_4, b_Mod_ones_4, j_Mod_ones_24, b_Mod_ones_24, an_0, an_1, an_8, cl_0, cl_1, cl_8, ne_0_1, ne_0_8, ne_1_0, ne_1_8, ne_8_0, ne_8_1, vi_0, vi_1, vi_8, an_2, an_3, an_4, an_5, an_6, an_7]
  rw [ones_nI hs]
  exact h
theorem c_Mod_allN {n : Nat} (hn6 : n ≤ 6) (hn : I 47 4 = nI n) (h : Q (some (.int (nI (2 ^ n - 1)))) SH I J (PP t u r x)) : MW g false (d + 1) 0 0 m_Mod_all [.ref 44] SH I J (PP t u r x) Q := by
  refine c_Mod_all ?_
  rw [hn, all_nI hn6]
  exact h
/-- the first best of the sets that will do -/
def sp_bst (ok : Nat → Bool) (bt : Nat → Nat → Bool) (s : Nat) (b : Option Nat) : Option Nat := match b with
  | none => if ok s = true then some s else none
  | some c => if ok s = true ∧ bt s c = true then some s else some c
def oI (b : Option Nat) : Int32 := match b with
  | none => -2
  | some s => nI s
theorem pw64 {n : Nat} (h : n ≤ 6) : 2 ^ n ≤ 64 := Nat.pow_le_pow_right (by omega) h
theorem pwp (n : Nat) : 0 < 2 ^ n := Nat.two_pow_pos n
theorem lp_Mod_mostOf {n w : Nat} (hn6 : n ≤ 6) (hn : I 47 4 = nI n) (hw : w < 64) : ∀ (m k : Nat) (b : Option Nat) (L : cp_Lo), k + m = 2 ^ n → (∀ c, b = some c → c < 64) → L 0 = some (.ref 44) → L 1 = some (.int (nI w)) → L 2 = some (.int (oI b)) → L 3 = some (.int (nI k)) →
    Q (some (.int (oI (fo (sp_bst (fun s => decide (s &&& w = w) && rs I n 49 s) (fun s c => decide (card c < card s))) m k b)))) SH I J (PP t u r x) → RW g false (d + 6) 0 0 m_Mod_mostOf 0 0 5 L [] SH I J (PP t u r x) Q := by
  intro m
  have h64 := pw64 hn6
  have hp := pwp n
  induction m with
  | zero =>
    intro k b L hk hb h0 h1 h2 h3 hq
    have c : nI (2 ^ n - 1) < nI k := nI_lt (by omega) (by omega)
    refine cp_run 60 (fun t => t == 5) ck_Mod_mostOf ?_
    simp only [cp_vc, cp_vs, cp_jm, cp_ent_en, cp_en_int, cp_en_ref, cp_en_ret, cp_en_long, cp_en_nil, cp_s1_at, cp_s2_at, cp_nl_int, cp_nl_ref, cp_nl_long, cp_nl_none, cp_pop_0, cp_pop_s, reduceIte, if_true, if_false, Bool.false_eq_true, Bool.true_eq_false, false_implies, implies_true, forall_const, true_implies, true_and, and_true, and_self, true_or, or_true, false_or, or_false, Value.category, List.length_cons, List.length_nil, Option.toList_some, Option.toList_none, List.cons_append, List.nil_append, List.append_nil, Prod.mk.injEq, Nat.add_zero, Nat.zero_add, Nat.reduceAdd, Nat.reduceSub, Nat.reduceEqDiff, Nat.reduceLeDiff, Nat.reduceLT, Nat.le_refl, beq_self_eq_true, Nat.reduceBEq, ne_eq, not_true_eq_false, not_false_eq_true, Int32.reduceAdd, Int32.reduceSub, Int32.reduceMul, Int32.reduceLE, Int32.reduceLT, Int32.reduceToNatClampNeg, b01_0, b01_01, b01_n, lt_m2, lt_m1, le_m2, le_m1, Classical.not_not, j_Mod_mostOf_0, b_Mod_mostOf_0, j_Mod_mostOf_5, b_Mod_mostOf_5, j_Mod_mostOf_47, b_Mod_mostOf_47, j_Mod_mostOf_49, b_Mod_mostOf_49, j_Mod_mostOf_55, b_Mod_mostOf_55, an_0, an_1, cl_0, ne_0_1, ne_0_m2, ne_1_0, ne_1_m2, ne_m2_0, ne_m2_1, pp_44_17, sh_44, sh_49, vi_0, h0, h1, h2, h3]
    refine c_Mod_allN hn6 hn ?_
    simp only [cp_kk, cp_vc, cp_vs, cp_jm, cp_ent_en, cp_en_int, cp_en_ref, cp_en_ret, cp_en_long, cp_en_nil, cp_s1_at, cp_s2_at, cp_nl_int, cp_nl_ref, cp_nl_long, cp_nl_none, cp_pop_0, cp_pop_s, reduceIte, if_true, if_false, Bool.false_eq_true, Bool.true_eq_false, false_implies, implies_true, forall_const, true_implies, true_and, and_true, and_self, true_or, or_true, false_or, or_false, Value.category, List.length_cons, List.length_nil, Option.toList_some, Option.toList_none, List.cons_append, List.nil_append, List.append_nil, Prod.mk.injEq, Nat.add_zero, Nat.zero_add, Nat.reduceAdd, Nat.reduceSub, Nat.reduceEqDiff, Nat.reduceLeDiff, Nat.reduceLT, Nat.le_refl, beq_self_eq_true, Nat.reduceBEq, ne_eq, not_true_eq_false, not_false_eq_true, Int32.reduceAdd, Int32.reduceSub, Int32.reduceMul, Int32.reduceLE, Int32.reduceLT, Int32.reduceToNatClampNeg, b01_0, b01_01, b01_n, lt_m2, lt_m1, le_m2, le_m1, Classical.not_not, Bool.or_false, Bool.false_or, Bool.true_or, Bool.or_true, j_Mod_mostOf_0, b_Mod_mostOf_0, j_Mod_mostOf_5, b_Mod_mostOf_5, j_Mod_mostOf_47, b_Mod_mostOf_47, j_Mod_mostOf_49, b_Mod_mostOf_49, j_Mod_mostOf_55, b_Mod_mostOf_55, an_0, an_1, cl_0, ne_0_1, ne_0_m2, ne_1_0, ne_1_m2, ne_m2_0, ne_m2_1, pp_44_17, sh_44, sh_49, vi_0, h0, h1, h2, h3, c]
    exact hq
  | succ m ih =>
    intro k b L hk hb h0 h1 h2 h3 hq
    have hk64 : k < 64 := by omega
    have c : ¬ nI (2 ^ n - 1) < nI k := nI_nlt (by omega) (by omega)
    have hand : k &&& w < 64 := Nat.lt_of_le_of_lt Nat.and_le_left hk64
    rw [fo] at hq
    refine cp_run 60 (fun t => t == 5) ck_Mod_mostOf ?_
    simp only [cp_vc, cp_vs, cp_jm, cp_ent_en, cp_en_int, cp_en_ref, cp_en_ret, cp_en_long, cp_en_nil, cp_s1_at, cp_s2_at, cp_nl_int, cp_nl_ref, cp_nl_long, cp_nl_none, cp_pop_0, cp_pop_s, reduceIte, if_true, if_false, Bool.false_eq_true, Bool.true_eq_false, false_implies, implies_true, forall_const, true_implies, true_and, and_true, and_self, true_or, or_true, false_or, or_false, Value.category, List.length_cons, List.length_nil, Option.toList_some, Option.toList_none, List.cons_append, List.nil_append, List.append_nil, Prod.mk.injEq, Nat.add_zero, Nat.zero_add, Nat.reduceAdd, Nat.reduceSub, Nat.reduceEqDiff, Nat.reduceLeDiff, Nat.reduceLT, Nat.le_refl, beq_self_eq_true, Nat.reduceBEq, ne_eq, not_true_eq_false, not_false_eq_true, Int32.reduceAdd, Int32.reduceSub, Int32.reduceMul, Int32.reduceLE, Int32.reduceLT, Int32.reduceToNatClampNeg, b01_0, b01_01, b01_n, lt_m2, lt_m1, le_m2, le_m1, Classical.not_not, j_Mod_mostOf_0, b_Mod_mostOf_0, j_Mod_mostOf_5, b_Mod_mostOf_5, j_Mod_mostOf_47, b_Mod_mostOf_47, j_Mod_mostOf_49, b_Mod_mostOf_49, j_Mod_mostOf_55, b_Mod_mostOf_55, an_0, an_1, cl_0, ne_0_1, ne_0_m2, ne_1_0, ne_1_m2, ne_m2_0, ne_m2_1, pp_44_17, sh_44, sh_49, vi_0, h0, h1, h2, h3]
    refine c_Mod_allN hn6 hn ?_
    simp only [cp_kk, cp_vc, cp_vs, cp_jm, cp_ent_en, cp_en_int, cp_en_ref, cp_en_ret, cp_en_long, cp_en_nil, cp_s1_at, cp_s2_at, cp_nl_int, cp_nl_ref, cp_nl_long, cp_nl_none, cp_pop_0, cp_pop_s, reduceIte, if_true, if_false, Bool.false_eq_true, Bool.true_eq_false, false_implies, implies_true, forall_const, true_implies, true_and, and_true, and_self, true_or, or_true, false_or, or_false, Value.category, List.length_cons, List.length_nil, Option.toList_some, Option.toList_none, List.cons_append, List.nil_append, List.append_nil, Prod.mk.injEq, Nat.add_zero, Nat.zero_add, Nat.reduceAdd, Nat.reduceSub, Nat.reduceEqDiff, Nat.reduceLeDiff, Nat.reduceLT, Nat.le_refl, beq_self_eq_true, Nat.reduceBEq, ne_eq, not_true_eq_false, not_false_eq_true, Int32.reduceAdd, Int32.reduceSub, Int32.reduceMul, Int32.reduceLE, Int32.reduceLT, Int32.reduceToNatClampNeg, b01_0, b01_01, b01_n, lt_m2, lt_m1, le_m2, le_m1, Classical.not_not, Bool.or_false, Bool.false_or, Bool.true_or, Bool.or_true, j_Mod_mostOf_0, b_Mod_mostOf_0, j_Mod_mostOf_5, b_Mod_mostOf_5, j_Mod_mostOf_47, b_Mod_mostOf_47, j_Mod_mostOf_49, b_Mod_mostOf_49, j_Mod_mostOf_55, b_Mod_mostOf_55, an_0, an_1, cl_0, ne_0_1, ne_0_m2, ne_1_0, ne_1_m2, ne_m2_0, ne_m2_1, pp_44_17, sh_44, sh_49, vi_0, h0, h1, h2, h3, c, and_nI hk64 hw, eqN (show k &&& w < 1000 by omega) (show w < 1000 by omega), nI_1]
    have no : sp_bst (fun s => decide (s &&& w = w) && rs I n 49 s) (fun s c => decide (card c < card s)) k b = b → RW g false (d + 6) 0 0 m_Mod_mostOf 0 0 5 (cp_s1 L 3 (.int (nI (k + 1)))) [] SH I J (PP t u r x) Q := by
      intro e
      rw [e] at hq
      refine ih (k + 1) b _ (by omega) hb ?_ ?_ ?_ ?_ hq <;> simp [cp_s1_at, cp_nl_int, cp_nl_ref, h0, h1, h2, h3]
    have yes : sp_bst (fun s => decide (s &&& w = w) && rs I n 49 s) (fun s c => decide (card c < card s)) k b = some k → RW g false (d + 6) 0 0 m_Mod_mostOf 0 0 5 (cp_s1 (cp_s1 L 2 (.int (nI k))) 3 (.int (nI (k + 1)))) [] SH I J (PP t u r x) Q := by
      intro e
      rw [e] at hq
      refine ih (k + 1) (some k) _ (by omega) (fun c q => by cases q; exact hk64) ?_ ?_ ?_ ?_ hq <;> simp [cp_s1_at, cp_nl_int, cp_nl_ref, h0, h1, h2, h3, oI]
    refine ⟨fun b1 => no ?_, fun b1 => ?_⟩
    · cases b <;> simp [sp_bst, b1]
    · refine c_Mod_isSnug sh_49 hk64 hn6 hn ?_
      cases b with
      | none =>
        simp only [oI] at h2
        simp only [cp_kk, cp_vc, cp_vs, cp_jm, cp_ent_en, cp_en_int, cp_en_ref, cp_en_ret, cp_en_long, cp_en_nil, cp_s1_at, cp_s2_at, cp_nl_int, cp_nl_ref, cp_nl_long, cp_nl_none, cp_pop_0, cp_pop_s, reduceIte, if_true, if_false, Bool.false_eq_true, Bool.true_eq_false, false_implies, implies_true, forall_const, true_implies, true_and, and_true, and_self, true_or, or_true, false_or, or_false, Value.category, List.length_cons, List.length_nil, Option.toList_some, Option.toList_none, List.cons_append, List.nil_append, List.append_nil, Prod.mk.injEq, Nat.add_zero, Nat.zero_add, Nat.reduceAdd, Nat.reduceSub, Nat.reduceEqDiff, Nat.reduceLeDiff, Nat.reduceLT, Nat.le_refl, beq_self_eq_true, Nat.reduceBEq, ne_eq, not_true_eq_false, not_false_eq_true, Int32.reduceAdd, Int32.reduceSub, Int32.reduceMul, Int32.reduceLE, Int32.reduceLT, Int32.reduceToNatClampNeg, b01_0, b01_01, b01_n, lt_m2, lt_m1, le_m2, le_m1, Classical.not_not, Bool.or_false, Bool.false_or, Bool.true_or, Bool.or_true, j_Mod_mostOf_0, b_Mod_mostOf_0, j_Mod_mostOf_5, b_Mod_mostOf_5, j_Mod_mostOf_47, b_Mod_mostOf_47, j_Mod_mostOf_49, b_Mod_mostOf_49, j_Mod_mostOf_55, b_Mod_mostOf_55, an_0, an_1, cl_0, ne_0_1, ne_0_m2, ne_1_0, ne_1_m2, ne_m2_0, ne_m2_1, pp_44_17, sh_44, sh_49, vi_0, h0, h1, h2, h3, nI_1]
        refine ⟨fun b2 => no ?_, fun b2 => yes ?_⟩
        · simp [sp_bst, b1, b2]
        · simp [sp_bst, b1, b2]
      | some c0 =>
        have hc0 := hb c0 rfl
        simp only [oI] at h2
        simp only [cp_kk, cp_vc, cp_vs, cp_jm, cp_ent_en, cp_en_int, cp_en_ref, cp_en_ret, cp_en_long, cp_en_nil, cp_s1_at, cp_s2_at, cp_nl_int, cp_nl_ref, cp_nl_long, cp_nl_none, cp_pop_0, cp_pop_s, reduceIte, if_true, if_false, Bool.false_eq_true, Bool.true_eq_false, false_implies, implies_true, forall_const, true_implies, true_and, and_true, and_self, true_or, or_true, false_or, or_false, Value.category, List.length_cons, List.length_nil, Option.toList_some, Option.toList_none, List.cons_append, List.nil_append, List.append_nil, Prod.mk.injEq, Nat.add_zero, Nat.zero_add, Nat.reduceAdd, Nat.reduceSub, Nat.reduceEqDiff, Nat.reduceLeDiff, Nat.reduceLT, Nat.le_refl, beq_self_eq_true, Nat.reduceBEq, ne_eq, not_true_eq_false, not_false_eq_true, Int32.reduceAdd, Int32.reduceSub, Int32.reduceMul, Int32.reduceLE, Int32.reduceLT, Int32.reduceToNatClampNeg, b01_0, b01_01, b01_n, lt_m2, lt_m1, le_m2, le_m1, Classical.not_not, Bool.or_false, Bool.false_or, Bool.true_or, Bool.or_true, j_Mod_mostOf_0, b_Mod_mostOf_0, j_Mod_mostOf_5, b_Mod_mostOf_5, j_Mod_mostOf_47, b_Mod_mostOf_47, j_Mod_mostOf_49, b_Mod_mostOf_49, j_Mod_mostOf_55, b_Mod_mostOf_55, an_0, an_1, cl_0, ne_0_1, ne_0_m2, ne_1_0, ne_1_m2, ne_m2_0, ne_m2_1, pp_44_17, sh_44, sh_49, vi_0, h0, h1, h2, h3, nI_1, lt_nI (show c0 < 1000 by omega)]
        refine ⟨fun b2 => no ?_, fun b2 => ?_⟩
        · simp [sp_bst, b1, b2]
        · refine c_Mod_ones hk64 ?_
          simp only [cp_kk, cp_vc, cp_vs, cp_jm, cp_ent_en, cp_en_int, cp_en_ref, cp_en_ret, cp_en_long, cp_en_nil, cp_s1_at, cp_s2_at, cp_nl_int, cp_nl_ref, cp_nl_long, cp_nl_none, cp_pop_0, cp_pop_s, reduceIte, if_true, if_false, Bool.false_eq_true, Bool.true_eq_false, false_implies, implies_true, forall_const, true_implies, true_and, and_true, and_self, true_or, or_true, false_or, or_false, Value.category, List.length_cons, List.length_nil, Option.toList_some, Option.toList_none, List.cons_append, List.nil_append, List.append_nil, Prod.mk.injEq, Nat.add_zero, Nat.zero_add, Nat.reduceAdd, Nat.reduceSub, Nat.reduceEqDiff, Nat.reduceLeDiff, Nat.reduceLT, Nat.le_refl, beq_self_eq_true, Nat.reduceBEq, ne_eq, not_true_eq_false, not_false_eq_true, Int32.reduceAdd, Int32.reduceSub, Int32.reduceMul, Int32.reduceLE, Int32.reduceLT, Int32.reduceToNatClampNeg, b01_0, b01_01, b01_n, lt_m2, lt_m1, le_m2, le_m1, Classical.not_not, Bool.or_false, Bool.false_or, Bool.true_or, Bool.or_true, j_Mod_mostOf_0, b_Mod_mostOf_0, j_Mod_mostOf_5, b_Mod_mostOf_5, j_Mod_mostOf_47, b_Mod_mostOf_47, j_Mod_mostOf_49, b_Mod_mostOf_49, j_Mod_mostOf_55, b_Mod_mostOf_55, an_0, an_1, cl_0, ne_0_1, ne_0_m2, ne_1_0, ne_1_m2, ne_m2_0, ne_m2_1, pp_44_17, sh_44, sh_49, vi_0, h0, h1, h2, h3, nI_1]
          refine c_Mod_ones hc0 ?_
          have l1 := card_le hk64
          have l2 := card_le hc0
          simp only [cp_kk, cp_vc, cp_vs, cp_jm, cp_ent_en, cp_en_int, cp_en_ref, cp_en_ret, cp_en_long, cp_en_nil, cp_s1_at, cp_s2_at, cp_nl_int, cp_nl_ref, cp_nl_long, cp_nl_none, cp_pop_0, cp_pop_s, reduceIte, if_true, if_false, Bool.false_eq_true, Bool.true_eq_false, false_implies, implies_true, forall_const, true_implies, true_and, and_true, and_self, true_or, or_true, false_or, or_false, Value.category, List.length_cons, List.length_nil, Option.toList_some, Option.toList_none, List.cons_append, List.nil_append, List.append_nil, Prod.mk.injEq, Nat.add_zero, Nat.zero_add, Nat.reduceAdd, Nat.reduceSub, Nat.reduceEqDiff, Nat.reduceLeDiff, Nat.reduceLT, Nat.le_refl, beq_self_eq_true, Nat.reduceBEq, ne_eq, not_true_eq_false, not_false_eq_true, Int32.reduceAdd, Int32.reduceSub, Int32.reduceMul, Int32.reduceLE, Int32.reduceLT, Int32.reduceToNatClampNeg, b01_0, b01_01, b01_n, lt_m2, lt_m1, le_m2, le_m1, Classical.not_not, Bool.or_false, Bool.false_or, Bool.true_or, Bool.or_true, j_Mod_mostOf_0, b_Mod_mostOf_0, j_Mod_mostOf_5, b_Mod_mostOf_5, j_Mod_mostOf_47, b_Mod_mostOf_47, j_Mod_mostOf_49, b_Mod_mostOf_49, j_Mod_mostOf_55, b_Mod_mostOf_55, an_0, an_1, cl_0, ne_0_1, ne_0_m2, ne_1_0, ne_1_m2, ne_m2_0, ne_m2_1, pp_44_17, sh_44, sh_49, vi_0, h0, h1, h2, h3, nI_1, leN (show card k < 1000 by omega) (show card c0 < 1000 by omega)]
          refine ⟨fun b3 => no ?_, fun b3 => yes ?_⟩
          · have : ¬ card c0 < card k := by omega
            simp [sp_bst, b1, b2, this]
          · have : card c0 < card k := by omega
            simp [sp_bst, b1, b2, this]
theorem c_Mod_mostOf {n w : Nat} (hn6 : n ≤ 6) (hn : I 47 4 = nI n) (hw : w < 64) (h : Q (some (.int (oI (fo (sp_bst (fun s => decide (s &&& w = w) && rs I n 49 s) (fun s c => decide (card c < card s))) (2 ^ n) 0 none)))) SH I J (PP t u r x)) : MW g false (d + 6) 0 0 m_Mod_mostOf [.ref 44, .int (nI w)] SH I J (PP t u r x) Q := by
  refine MW.of ok_Mod_mostOf (Nat.le_of_ble_eq_true rfl) ?_
  refine cp_run 20 (fun t => t == 5) ck_Mod_mostOf ?_
  simp only [cp_vc, cp_vs, cp_jm, cp_ent_en, cp_en_int, cp_en_ref, cp_en_ret, cp_en_long, cp_en_nil, cp_s1_at, cp_s2_at, cp_nl_int, cp_nl_ref, cp_nl_long, cp_nl_none, cp_pop_0, cp_pop_s, reduceIte, if_true, if_false, Bool.false_eq_true, Bool.true_eq_false, false_implies, implies_true, forall_const, true_implies, true_and, and_true, and_self, true_or, or_true, false_or, or_false, Value.category, List.length_cons, List.length_nil, Option.toList_some, Option.toList_none, List.cons_append, List.nil_append, List.append_nil, Prod.mk.injEq, Nat.add_zero, Nat.zero_add, Nat.reduceAdd, Nat.reduceSub, Nat.reduceEqDiff, Nat.reduceLeDiff, Nat.reduceLT, Nat.le_refl, beq_self_eq_true, Nat.reduceBEq, ne_eq, not_true_eq_false, not_false_eq_true, Int32.reduceAdd, Int32.reduceSub, Int32.reduceMul, Int32.reduceLE, Int32.reduceLT, Int32.reduceToNatClampNeg, b01_0, b01_01, b01_n, lt_m2, lt_m1, le_m2, le_m1, Classical.not_not, j_Mod_mostOf_0, b_Mod_mostOf_0, j_Mod_mostOf_5, b_Mod_mostOf_5, j_Mod_mostOf_47, b_Mod_mostOf_47, j_Mod_mostOf_49, b_Mod_mostOf_49, j_Mod_mostOf_55, b_Mod_mostOf_55, an_0, an_1, cl_0, ne_0_1, ne_0_m2, ne_1_0, ne_1_m2, ne_m2_0, ne_m2_1, pp_44_17, sh_44, sh_49, vi_0]
  refine lp_Mod_mostOf hn6 hn hw (2 ^ n) 0 none _ (by omega) (fun c q => by cases q) ?_ ?_ ?_ ?_ h <;> simp [cp_s1_at, cp_ent_en, cp_en_int, cp_en_ref, cp_nl_int, cp_nl_ref, nI_0, oI]
end Mod5
