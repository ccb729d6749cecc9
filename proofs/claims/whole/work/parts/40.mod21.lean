section Mod21
variable {g : cp_G} {d : Nat} {sh : cp_H} {I : cp_I} {J : cp_J} {P : cp_P} {Q : cp_QT} {t u r x : Nat}
/-! visitors -/
def wN (z : Int32) : Nat := z.toNatClampNeg
theorem wN_nI {z : Int32} (h : ¬ z < 0) : z = nI (wN z) ∧ wN z < 2 ^ 31 := by
  obtain ⟨j, hj, rfl⟩ := nI_of h
  unfold wN
  rw [nI_clamp hj]
  exact ⟨rfl, hj⟩
theorem cl_ge (z : Int32) : ¬ sp_cl z < 0 := by
  unfold sp_cl
  split
  · decide
  · split
    · decide +kernel
    · assumption
/-- the weight of a company, some being in for certain -/
def sp_wt (n v ce s : Nat) : Nat := fo (fun b z => z * (if ce.testBit b = true then 1 else if s.testBit b = true then v else 100 - v)) n 0 1
abbrev viT : Type := Nat × Nat × Nat × Nat
def jv (J : cp_J) (q : viT) : cp_J := fun a j => if a = 44 ∧ j = 35 then lN q.1 else if a = 44 ∧ j = 36 then lN q.2.1 else if a = 44 ∧ j = 37 then lN q.2.2.1 else if a = 44 ∧ j = 38 then lN q.2.2.2 else J a j
theorem jv35 (J : cp_J) (q : viT) : jv J q 44 35 = lN q.1 := by simp [jv]
theorem jv36 (J : cp_J) (q : viT) : jv J q 44 36 = lN q.2.1 := by simp [jv]
theorem jv37 (J : cp_J) (q : viT) : jv J q 44 37 = lN q.2.2.1 := by simp [jv]
theorem jv38 (J : cp_J) (q : viT) : jv J q 44 38 = lN q.2.2.2 := by simp [jv]
theorem jvu35 (J : cp_J) (q : viT) (v : Nat) : cp_u (jv J q) 44 35 (lN v) = jv J (v, q.2.1, q.2.2.1, q.2.2.2) := by
  funext a j
  by_cases h : a = 44 ∧ j = 35 <;> simp [jv, cp_u, h]
theorem jvu36 (J : cp_J) (q : viT) (v : Nat) : cp_u (jv J q) 44 36 (lN v) = jv J (q.1, v, q.2.2.1, q.2.2.2) := by
  funext a j
  by_cases h : a = 44 ∧ j = 36 <;> simp [jv, cp_u, h]
theorem jvu37 (J : cp_J) (q : viT) (v : Nat) : cp_u (jv J q) 44 37 (lN v) = jv J (q.1, q.2.1, v, q.2.2.2) := by
  funext a j
  by_cases h : a = 44 ∧ j = 37 <;> simp [jv, cp_u, h]
theorem jvu38 (J : cp_J) (q : viT) (v : Nat) : cp_u (jv J q) 44 38 (lN v) = jv J (q.1, q.2.1, q.2.2.1, v) := by
  funext a j
  by_cases h : a = 44 ∧ j = 38 <;> simp [jv, cp_u, h]
theorem jv_0 (J : cp_J) : cp_u (cp_u (cp_u (cp_u J 44 35 0) 44 36 0) 44 37 0) 44 38 0 = jv J (0, 0, 0, 0) := by
  have e2 : lN 0 = (0 : Int64) := rfl
  funext a j
  by_cases h1 : a = 44 ∧ j = 35
  · simp [jv, cp_u, h1, e2]
  · by_cases h2 : a = 44 ∧ j = 36
    · simp [jv, cp_u, h2, e2]
    · by_cases h3 : a = 44 ∧ j = 37
      · simp [jv, cp_u, h3, e2]
      · by_cases h4 : a = 44 ∧ j = 38
        · simp [jv, cp_u, h4, e2]
        · simp [jv, cp_u, h1, h2, h3, h4]
def sp_vs (n v ce : Nat) (B : Nat → Nat) (W : Nat → Nat) (C : Nat → Bool) (s : Nat) (q : viT) : viT :=
  if s &&& ce = ce then (q.1 + sp_wt n v ce s, q.2.1 + (if B s &&& ce = ce then sp_wt n v ce s else 0), q.2.2.1 + sp_wt n v ce s * W s, q.2.2.2 + (if C s = true then sp_wt n v ce s else 0)) else q
/-- the four sums -/
def rvq (I : cp_I) (n v ce : Nat) : viT := fo (sp_vs n v ce (rb I n 49) (fun s => wN (rw_ I n 49 s)) (fun s => decide (rw_ I n 49 s < I 47 2))) (2 ^ n) 0 (0, 0, 0, 0)
theorem lp_Mod_tryVisits_45 {n v ce s : Nat} (hn6 : n ≤ 6) (hn : I 47 4 = nI n) (hv : v ≤ 100) (hV : I 47 3 = nI v) (hce : ce < 64) (hs : s < 64) : ∀ (m b z : Nat) (L : cp_Lo), b + m = n → L 0 = some (.ref 44) → L 1 = some (.int (nI ce)) → L 2 = some (.int (nI s)) → L 3 = some (.long (lN z)) → L 5 = some (.int (nI b)) →
    (∀ L' : cp_Lo, L' 0 = some (.ref 44) → L' 1 = some (.int (nI ce)) → L' 2 = some (.int (nI s)) → L' 3 = some (.long (lN (fo (fun b z => z * (if ce.testBit b = true then 1 else if s.testBit b = true then v else 100 - v)) m b z))) → RW g false (d + 5) 0 0 m_Mod_tryVisits 0 0 107 L' [] SH I J (PP t u r x) Q) →
    RW g false (d + 5) 0 0 m_Mod_tryVisits 0 0 45 L [] SH I J (PP t u r x) Q := by
  intro m
  induction m with
  | zero =>
    intro b z L hb l0 l1 l2 l3 l5 hx
    have c1 : nI n ≤ nI b := nI_le (by omega) (by omega)
    refine cp_run 60 (fun t => t == 45 || t == 107) ck_Mod_tryVisits ?_
    simp only [cp_vc, cp_vs, cp_jm, cp_ent_en, cp_en_int, cp_en_ref, cp_en_ret, cp_en_long, cp_en_nil, cp_s1_at, cp_s2_at, cp_nl_int, cp_nl_ref, cp_nl_long, cp_nl_none, cp_pop_0, cp_pop_s, reduceIte, if_true, if_false, Bool.false_eq_true, Bool.true_eq_false, false_implies, implies_true, forall_const, true_implies, true_and, and_true, and_self, true_or, or_true, false_or, or_false, Value.category, List.length_cons, List.length_nil, Option.toList_some, Option.toList_none, List.cons_append, List.nil_append, List.append_nil, Prod.mk.injEq, Nat.add_zero, Nat.zero_add, Nat.reduceAdd, Nat.reduceSub, Nat.reduceEqDiff, Nat.reduceLeDiff, Nat.reduceLT, Nat.le_refl, beq_self_eq_true, Nat.reduceBEq, ne_eq, not_true_eq_false, not_false_eq_true, Int32.reduceAdd, Int32.reduceSub, Int32.reduceMul, Int32.reduceLE, Int32.reduceLT, Int32.reduceToNatClampNeg, b01_0, b01_1, ne_2_0, ne_3_0, ne_4_0, ne_5_0, ne_6_0, ne_m1_0, ne_m2_0, b01_01, b01_n, lt_m2, lt_m1, le_m2, le_m1, Classical.not_not, Bool.or_false, Bool.false_or, Bool.true_or, Bool.or_true, j_Mod_tryVisits_0, b_Mod_tryVisits_0, j_Mod_tryVisits_22, b_Mod_tryVisits_22, j_Mod_tryVisits_40, b_Mod_tryVisits_40, j_Mod_tryVisits_45, b_Mod_tryVisits_45, j_Mod_tryVisits_70, b_Mod_tryVisits_70, j_Mod_tryVisits_89, b_Mod_tryVisits_89, j_Mod_tryVisits_99, b_Mod_tryVisits_99, j_Mod_tryVisits_107, b_Mod_tryVisits_107, j_Mod_tryVisits_141, b_Mod_tryVisits_141, j_Mod_tryVisits_142, b_Mod_tryVisits_142, j_Mod_tryVisits_194, b_Mod_tryVisits_194, j_Mod_tryVisits_195, b_Mod_tryVisits_195, j_Mod_tryVisits_199, b_Mod_tryVisits_199, j_Mod_tryVisits_205, b_Mod_tryVisits_205, an_0, an_1, an_2, an_3, an_4, cl_0, cl_100, cl_2, cl_3, cl_4, ne_0_1, ne_0_2, ne_0_3, ne_0_4, ne_1_0, ne_1_2, ne_1_3, ne_1_4, ne_2_0, ne_2_1, ne_2_3, ne_2_4, ne_3_0, ne_3_1, ne_3_2, ne_3_4, ne_4_0, ne_4_1, ne_4_2, ne_4_3, pp_44_15, pp_44_17, sh_44, sh_47, sh_49, vi_0, vi_100, vi_2, vi_3, vi_4, l0, l1, l2, l3, l5, c1, hn]
    exact hx L l0 l1 l2 l3
  | succ m ih =>
    intro b z L hb l0 l1 l2 l3 l5 hx
    have c1 : ¬ nI n ≤ nI b := nI_ge (by omega) (by omega)
    rw [fo] at hx
    have e1 : (1 : Int64) = lN 1 := rfl
    have e2 : (100 : Int32) - nI v = nI (100 - v) := pk_sub (a := 100) hv
    refine cp_run 60 (fun t => t == 45 || t == 107) ck_Mod_tryVisits ?_
    simp only [cp_vc, cp_vs, cp_jm, cp_ent_en, cp_en_int, cp_en_ref, cp_en_ret, cp_en_long, cp_en_nil, cp_s1_at, cp_s2_at, cp_nl_int, cp_nl_ref, cp_nl_long, cp_nl_none, cp_pop_0, cp_pop_s, reduceIte, if_true, if_false, Bool.false_eq_true, Bool.true_eq_false, false_implies, implies_true, forall_const, true_implies, true_and, and_true, and_self, true_or, or_true, false_or, or_false, Value.category, List.length_cons, List.length_nil, Option.toList_some, Option.toList_none, List.cons_append, List.nil_append, List.append_nil, Prod.mk.injEq, Nat.add_zero, Nat.zero_add, Nat.reduceAdd, Nat.reduceSub, Nat.reduceEqDiff, Nat.reduceLeDiff, Nat.reduceLT, Nat.le_refl, beq_self_eq_true, Nat.reduceBEq, ne_eq, not_true_eq_false, not_false_eq_true, Int32.reduceAdd, Int32.reduceSub, Int32.reduceMul, Int32.reduceLE, Int32.reduceLT, Int32.reduceToNatClampNeg, b01_0, b01_1, ne_2_0, ne_3_0, ne_4_0, ne_5_0, ne_6_0, ne_m1_0, ne_m2_0, b01_01, b01_n, lt_m2, lt_m1, le_m2, le_m1, Classical.not_not, Bool.or_false, Bool.false_or, Bool.true_or, Bool.or_true, j_Mod_tryVisits_0, b_Mod_tryVisits_0, j_Mod_tryVisits_22, b_Mod_tryVisits_22, j_Mod_tryVisits_40, b_Mod_tryVisits_40, j_Mod_tryVisits_45, b_Mod_tryVisits_45, j_Mod_tryVisits_70, b_Mod_tryVisits_70, j_Mod_tryVisits_89, b_Mod_tryVisits_89, j_Mod_tryVisits_99, b_Mod_tryVisits_99, j_Mod_tryVisits_107, b_Mod_tryVisits_107, j_Mod_tryVisits_141, b_Mod_tryVisits_141, j_Mod_tryVisits_142, b_Mod_tryVisits_142, j_Mod_tryVisits_194, b_Mod_tryVisits_194, j_Mod_tryVisits_195, b_Mod_tryVisits_195, j_Mod_tryVisits_199, b_Mod_tryVisits_199, j_Mod_tryVisits_205, b_Mod_tryVisits_205, an_0, an_1, an_2, an_3, an_4, cl_0, cl_100, cl_2, cl_3, cl_4, ne_0_1, ne_0_2, ne_0_3, ne_0_4, ne_1_0, ne_1_2, ne_1_3, ne_1_4, ne_2_0, ne_2_1, ne_2_3, ne_2_4, ne_3_0, ne_3_1, ne_3_2, ne_3_4, ne_4_0, ne_4_1, ne_4_2, ne_4_3, pp_44_15, pp_44_17, sh_44, sh_47, sh_49, vi_0, vi_100, vi_2, vi_3, vi_4, l0, l1, l2, l3, l5, c1, hn]
    refine c_Mod_hb hce (by omega) ?_
    simp only [cp_kk, cp_vc, cp_vs, cp_jm, cp_ent_en, cp_en_int, cp_en_ref, cp_en_ret, cp_en_long, cp_en_nil, cp_s1_at, cp_s2_at, cp_nl_int, cp_nl_ref, cp_nl_long, cp_nl_none, cp_pop_0, cp_pop_s, reduceIte, if_true, if_false, Bool.false_eq_true, Bool.true_eq_false, false_implies, implies_true, forall_const, true_implies, true_and, and_true, and_self, true_or, or_true, false_or, or_false, Value.category, List.length_cons, List.length_nil, Option.toList_some, Option.toList_none, List.cons_append, List.nil_append, List.append_nil, Prod.mk.injEq, Nat.add_zero, Nat.zero_add, Nat.reduceAdd, Nat.reduceSub, Nat.reduceEqDiff, Nat.reduceLeDiff, Nat.reduceLT, Nat.le_refl, beq_self_eq_true, Nat.reduceBEq, ne_eq, not_true_eq_false, not_false_eq_true, Int32.reduceAdd, Int32.reduceSub, Int32.reduceMul, Int32.reduceLE, Int32.reduceLT, Int32.reduceToNatClampNeg, b01_0, b01_1, ne_2_0, ne_3_0, ne_4_0, ne_5_0, ne_6_0, ne_m1_0, ne_m2_0, b01_01, b01_n, lt_m2, lt_m1, le_m2, le_m1, Classical.not_not, Bool.or_false, Bool.false_or, Bool.true_or, Bool.or_true, j_Mod_tryVisits_0, b_Mod_tryVisits_0, j_Mod_tryVisits_22, b_Mod_tryVisits_22, j_Mod_tryVisits_40, b_Mod_tryVisits_40, j_Mod_tryVisits_45, b_Mod_tryVisits_45, j_Mod_tryVisits_70, b_Mod_tryVisits_70, j_Mod_tryVisits_89, b_Mod_tryVisits_89, j_Mod_tryVisits_99, b_Mod_tryVisits_99, j_Mod_tryVisits_107, b_Mod_tryVisits_107, j_Mod_tryVisits_141, b_Mod_tryVisits_141, j_Mod_tryVisits_142, b_Mod_tryVisits_142, j_Mod_tryVisits_194, b_Mod_tryVisits_194, j_Mod_tryVisits_195, b_Mod_tryVisits_195, j_Mod_tryVisits_199, b_Mod_tryVisits_199, j_Mod_tryVisits_205, b_Mod_tryVisits_205, an_0, an_1, an_2, an_3, an_4, cl_0, cl_100, cl_2, cl_3, cl_4, ne_0_1, ne_0_2, ne_0_3, ne_0_4, ne_1_0, ne_1_2, ne_1_3, ne_1_4, ne_2_0, ne_2_1, ne_2_3, ne_2_4, ne_3_0, ne_3_1, ne_3_2, ne_3_4, ne_4_0, ne_4_1, ne_4_2, ne_4_3, pp_44_15, pp_44_17, sh_44, sh_47, sh_49, vi_0, vi_100, vi_2, vi_3, vi_4, l0, l1, l2, l3, l5, nI_1, e1, lN_mul]
    refine ⟨fun b1 => ?_, fun b1 => ?_⟩
    · refine c_Mod_hb hs (by omega) ?_
      simp only [cp_kk, cp_vc, cp_vs, cp_jm, cp_ent_en, cp_en_int, cp_en_ref, cp_en_ret, cp_en_long, cp_en_nil, cp_s1_at, cp_s2_at, cp_nl_int, cp_nl_ref, cp_nl_long, cp_nl_none, cp_pop_0, cp_pop_s, reduceIte, if_true, if_false, Bool.false_eq_true, Bool.true_eq_false, false_implies, implies_true, forall_const, true_implies, true_and, and_true, and_self, true_or, or_true, false_or, or_false, Value.category, List.length_cons, List.length_nil, Option.toList_some, Option.toList_none, List.cons_append, List.nil_append, List.append_nil, Prod.mk.injEq, Nat.add_zero, Nat.zero_add, Nat.reduceAdd, Nat.reduceSub, Nat.reduceEqDiff, Nat.reduceLeDiff, Nat.reduceLT, Nat.le_refl, beq_self_eq_true, Nat.reduceBEq, ne_eq, not_true_eq_false, not_false_eq_true, Int32.reduceAdd, Int32.reduceSub, Int32.reduceMul, Int32.reduceLE, Int32.reduceLT, Int32.reduceToNatClampNeg, b01_0, b01_1, ne_2_0, ne_3_0, ne_4_0, ne_5_0, ne_6_0, ne_m1_0, ne_m2_0, b01_01, b01_n, lt_m2, lt_m1, le_m2, le_m1, Classical.not_not, Bool.or_false, Bool.false_or, Bool.true_or, Bool.or_true, j_Mod_tryVisits_0, b_Mod_tryVisits_0, j_Mod_tryVisits_22, b_Mod_tryVisits_22, j_Mod_tryVisits_40, b_Mod_tryVisits_40, j_Mod_tryVisits_45, b_Mod_tryVisits_45, j_Mod_tryVisits_70, b_Mod_tryVisits_70, j_Mod_tryVisits_89, b_Mod_tryVisits_89, j_Mod_tryVisits_99, b_Mod_tryVisits_99, j_Mod_tryVisits_107, b_Mod_tryVisits_107, j_Mod_tryVisits_141, b_Mod_tryVisits_141, j_Mod_tryVisits_142, b_Mod_tryVisits_142, j_Mod_tryVisits_194, b_Mod_tryVisits_194, j_Mod_tryVisits_195, b_Mod_tryVisits_195, j_Mod_tryVisits_199, b_Mod_tryVisits_199, j_Mod_tryVisits_205, b_Mod_tryVisits_205, an_0, an_1, an_2, an_3, an_4, cl_0, cl_100, cl_2, cl_3, cl_4, ne_0_1, ne_0_2, ne_0_3, ne_0_4, ne_1_0, ne_1_2, ne_1_3, ne_1_4, ne_2_0, ne_2_1, ne_2_3, ne_2_4, ne_3_0, ne_3_1, ne_3_2, ne_3_4, ne_4_0, ne_4_1, ne_4_2, ne_4_3, pp_44_15, pp_44_17, sh_44, sh_47, sh_49, vi_0, vi_100, vi_2, vi_3, vi_4, l0, l1, l2, l3, l5, nI_1, hV, e2, nI_l (show v < 2 ^ 31 by omega), nI_l (show 100 - v < 2 ^ 31 by omega), lN_mul]
      rw [if_neg b1] at hx
      refine ⟨fun b2 => ih (b + 1) (z * (100 - v)) _ (by omega) ?_ ?_ ?_ ?_ ?_ (by rw [if_neg b2] at hx; exact hx), fun b2 => ih (b + 1) (z * v) _ (by omega) ?_ ?_ ?_ ?_ ?_ (by rw [if_pos b2] at hx; exact hx)⟩ <;> simp [cp_s1_at, cp_s2_at, cp_nl_int, cp_nl_ref, cp_nl_long, l0, l1, l2]
    · rw [if_pos b1] at hx
      refine ih (b + 1) (z * 1) _ (by omega) ?_ ?_ ?_ ?_ ?_ hx <;> simp [cp_s1_at, cp_s2_at, cp_nl_int, cp_nl_ref, cp_nl_long, l0, l1, l2]
theorem lp_Mod_tryVisits {n v ce : Nat} (hn6 : n ≤ 6) (hn : I 47 4 = nI n) (hv : v ≤ 100) (hV : I 47 3 = nI v) (hce : ce < 64) : ∀ (m s : Nat) (q : viT) (L : cp_Lo), s + m = 2 ^ n → L 0 = some (.ref 44) → L 1 = some (.int (nI ce)) → L 2 = some (.int (nI s)) →
    Q none SH I (jv J (fo (sp_vs n v ce (rb I n 49) (fun s => wN (rw_ I n 49 s)) (fun s => decide (rw_ I n 49 s < I 47 2))) m s q)) (PP t u r x) →
    RW g false (d + 5) 0 0 m_Mod_tryVisits 0 0 22 L [] SH I (jv J q) (PP t u r x) Q := by
  have h64 : 2 ^ n ≤ 64 := Nat.pow_le_pow_right (n := 2) (by omega) hn6
  intro m
  induction m with
  | zero =>
    intro s q L hs l0 l1 l2 hq
    have c1 : nI (2 ^ n - 1) < nI s := nI_lt (by have := Nat.two_pow_pos n; omega) (by omega)
    refine cp_run 60 (fun t => t == 22 || t == 45 || t == 107) ck_Mod_tryVisits ?_
    simp only [cp_vc, cp_vs, cp_jm, cp_ent_en, cp_en_int, cp_en_ref, cp_en_ret, cp_en_long, cp_en_nil, cp_s1_at, cp_s2_at, cp_nl_int, cp_nl_ref, cp_nl_long, cp_nl_none, cp_pop_0, cp_pop_s, reduceIte, if_true, if_false, Bool.false_eq_true, Bool.true_eq_false, false_implies, implies_true, forall_const, true_implies, true_and, and_true, and_self, true_or, or_true, false_or, or_false, Value.category, List.length_cons, List.length_nil, Option.toList_some, Option.toList_none, List.cons_append, List.nil_append, List.append_nil, Prod.mk.injEq, Nat.add_zero, Nat.zero_add, Nat.reduceAdd, Nat.reduceSub, Nat.reduceEqDiff, Nat.reduceLeDiff, Nat.reduceLT, Nat.le_refl, beq_self_eq_true, Nat.reduceBEq, ne_eq, not_true_eq_false, not_false_eq_true, Int32.reduceAdd, Int32.reduceSub, Int32.reduceMul, Int32.reduceLE, Int32.reduceLT, Int32.reduceToNatClampNeg, b01_0, b01_1, ne_2_0, ne_3_0, ne_4_0, ne_5_0, ne_6_0, ne_m1_0, ne_m2_0, b01_01, b01_n, lt_m2, lt_m1, le_m2, le_m1, Classical.not_not, Bool.or_false, Bool.false_or, Bool.true_or, Bool.or_true, j_Mod_tryVisits_0, b_Mod_tryVisits_0, j_Mod_tryVisits_22, b_Mod_tryVisits_22, j_Mod_tryVisits_40, b_Mod_tryVisits_40, j_Mod_tryVisits_45, b_Mod_tryVisits_45, j_Mod_tryVisits_70, b_Mod_tryVisits_70, j_Mod_tryVisits_89, b_Mod_tryVisits_89, j_Mod_tryVisits_99, b_Mod_tryVisits_99, j_Mod_tryVisits_107, b_Mod_tryVisits_107, j_Mod_tryVisits_141, b_Mod_tryVisits_141, j_Mod_tryVisits_142, b_Mod_tryVisits_142, j_Mod_tryVisits_194, b_Mod_tryVisits_194, j_Mod_tryVisits_195, b_Mod_tryVisits_195, j_Mod_tryVisits_199, b_Mod_tryVisits_199, j_Mod_tryVisits_205, b_Mod_tryVisits_205, an_0, an_1, an_2, an_3, an_4, cl_0, cl_100, cl_2, cl_3, cl_4, ne_0_1, ne_0_2, ne_0_3, ne_0_4, ne_1_0, ne_1_2, ne_1_3, ne_1_4, ne_2_0, ne_2_1, ne_2_3, ne_2_4, ne_3_0, ne_3_1, ne_3_2, ne_3_4, ne_4_0, ne_4_1, ne_4_2, ne_4_3, pp_44_15, pp_44_17, sh_44, sh_47, sh_49, vi_0, vi_100, vi_2, vi_3, vi_4, l0, l1, l2]
    refine c_Mod_all ?_
    rw [hn, all_nI hn6]
    simp only [cp_kk, cp_vc, cp_vs, cp_jm, cp_ent_en, cp_en_int, cp_en_ref, cp_en_ret, cp_en_long, cp_en_nil, cp_s1_at, cp_s2_at, cp_nl_int, cp_nl_ref, cp_nl_long, cp_nl_none, cp_pop_0, cp_pop_s, reduceIte, if_true, if_false, Bool.false_eq_true, Bool.true_eq_false, false_implies, implies_true, forall_const, true_implies, true_and, and_true, and_self, true_or, or_true, false_or, or_false, Value.category, List.length_cons, List.length_nil, Option.toList_some, Option.toList_none, List.cons_append, List.nil_append, List.append_nil, Prod.mk.injEq, Nat.add_zero, Nat.zero_add, Nat.reduceAdd, Nat.reduceSub, Nat.reduceEqDiff, Nat.reduceLeDiff, Nat.reduceLT, Nat.le_refl, beq_self_eq_true, Nat.reduceBEq, ne_eq, not_true_eq_false, not_false_eq_true, Int32.reduceAdd, Int32.reduceSub, Int32.reduceMul, Int32.reduceLE, Int32.reduceLT, Int32.reduceToNatClampNeg, b01_0, b01_1, ne_2_0, ne_3_0, ne_4_0, ne_5_0, ne_6_0, ne_m1_0, ne_m2_0, b01_01, b01_n, lt_m2, lt_m1, le_m2, le_m1, Classical.not_not, Bool.or_false, Bool.false_or, Bool.true_or, Bool.or_true, j_Mod_tryVisits_0, b_Mod_tryVisits_0, j_Mod_tryVisits_22, b_Mod_tryVisits_22, j_Mod_tryVisits_40, b_Mod_tryVisits_40, j_Mod_tryVisits_45, b_Mod_tryVisits_45, j_Mod_tryVisits_70, b_Mod_tryVisits_70, j_Mod_tryVisits_89, b_Mod_tryVisits_89, j_Mod_tryVisits_99, b_Mod_tryVisits_99, j_Mod_tryVisits_107, b_Mod_tryVisits_107, j_Mod_tryVisits_141, b_Mod_tryVisits_141, j_Mod_tryVisits_142, b_Mod_tryVisits_142, j_Mod_tryVisits_194, b_Mod_tryVisits_194, j_Mod_tryVisits_195, b_Mod_tryVisits_195, j_Mod_tryVisits_199, b_Mod_tryVisits_199, j_Mod_tryVisits_205, b_Mod_tryVisits_205, an_0, an_1, an_2, an_3, an_4, cl_0, cl_100, cl_2, cl_3, cl_4, ne_0_1, ne_0_2, ne_0_3, ne_0_4, ne_1_0, ne_1_2, ne_1_3, ne_1_4, ne_2_0, ne_2_1, ne_2_3, ne_2_4, ne_3_0, ne_3_1, ne_3_2, ne_3_4, ne_4_0, ne_4_1, ne_4_2, ne_4_3, pp_44_15, pp_44_17, sh_44, sh_47, sh_49, vi_0, vi_100, vi_2, vi_3, vi_4, l0, l1, l2, c1]
    exact hq
  | succ m ih =>
    intro s q L hs l0 l1 l2 hq
    have c1 : ¬ nI (2 ^ n - 1) < nI s := nI_nlt (by omega) (by omega)
    have hk64 : s < 64 := by omega
    rw [fo] at hq
    refine cp_run 60 (fun t => t == 22 || t == 45 || t == 107) ck_Mod_tryVisits ?_
    simp only [cp_vc, cp_vs, cp_jm, cp_ent_en, cp_en_int, cp_en_ref, cp_en_ret, cp_en_long, cp_en_nil, cp_s1_at, cp_s2_at, cp_nl_int, cp_nl_ref, cp_nl_long, cp_nl_none, cp_pop_0, cp_pop_s, reduceIte, if_true, if_false, Bool.false_eq_true, Bool.true_eq_false, false_implies, implies_true, forall_const, true_implies, true_and, and_true, and_self, true_or, or_true, false_or, or_false, Value.category, List.length_cons, List.length_nil, Option.toList_some, Option.toList_none, List.cons_append, List.nil_append, List.append_nil, Prod.mk.injEq, Nat.add_zero, Nat.zero_add, Nat.reduceAdd, Nat.reduceSub, Nat.reduceEqDiff, Nat.reduceLeDiff, Nat.reduceLT, Nat.le_refl, beq_self_eq_true, Nat.reduceBEq, ne_eq, not_true_eq_false, not_false_eq_true, Int32.reduceAdd, Int32.reduceSub, Int32.reduceMul, Int32.reduceLE, Int32.reduceLT, Int32.reduceToNatClampNeg, b01_0, b01_1, ne_2_0, ne_3_0, ne_4_0, ne_5_0, ne_6_0, ne_m1_0, ne_m2_0, b01_01, b01_n, lt_m2, lt_m1, le_m2, le_m1, Classical.not_not, Bool.or_false, Bool.false_or, Bool.true_or, Bool.or_true, j_Mod_tryVisits_0, b_Mod_tryVisits_0, j_Mod_tryVisits_22, b_Mod_tryVisits_22, j_Mod_tryVisits_40, b_Mod_tryVisits_40, j_Mod_tryVisits_45, b_Mod_tryVisits_45, j_Mod_tryVisits_70, b_Mod_tryVisits_70, j_Mod_tryVisits_89, b_Mod_tryVisits_89, j_Mod_tryVisits_99, b_Mod_tryVisits_99, j_Mod_tryVisits_107, b_Mod_tryVisits_107, j_Mod_tryVisits_141, b_Mod_tryVisits_141, j_Mod_tryVisits_142, b_Mod_tryVisits_142, j_Mod_tryVisits_194, b_Mod_tryVisits_194, j_Mod_tryVisits_195, b_Mod_tryVisits_195, j_Mod_tryVisits_199, b_Mod_tryVisits_199, j_Mod_tryVisits_205, b_Mod_tryVisits_205, an_0, an_1, an_2, an_3, an_4, cl_0, cl_100, cl_2, cl_3, cl_4, ne_0_1, ne_0_2, ne_0_3, ne_0_4, ne_1_0, ne_1_2, ne_1_3, ne_1_4, ne_2_0, ne_2_1, ne_2_3, ne_2_4, ne_3_0, ne_3_1, ne_3_2, ne_3_4, ne_4_0, ne_4_1, ne_4_2, ne_4_3, pp_44_15, pp_44_17, sh_44, sh_47, sh_49, vi_0, vi_100, vi_2, vi_3, vi_4, l0, l1, l2]
    refine c_Mod_all ?_
    rw [hn, all_nI hn6]
    have hand : s &&& ce < 64 := Nat.lt_of_le_of_lt Nat.and_le_left hk64
    simp only [cp_kk, cp_vc, cp_vs, cp_jm, cp_ent_en, cp_en_int, cp_en_ref, cp_en_ret, cp_en_long, cp_en_nil, cp_s1_at, cp_s2_at, cp_nl_int, cp_nl_ref, cp_nl_long, cp_nl_none, cp_pop_0, cp_pop_s, reduceIte, if_true, if_false, Bool.false_eq_true, Bool.true_eq_false, false_implies, implies_true, forall_const, true_implies, true_and, and_true, and_self, true_or, or_true, false_or, or_false, Value.category, List.length_cons, List.length_nil, Option.toList_some, Option.toList_none, List.cons_append, List.nil_append, List.append_nil, Prod.mk.injEq, Nat.add_zero, Nat.zero_add, Nat.reduceAdd, Nat.reduceSub, Nat.reduceEqDiff, Nat.reduceLeDiff, Nat.reduceLT, Nat.le_refl, beq_self_eq_true, Nat.reduceBEq, ne_eq, not_true_eq_false, not_false_eq_true, Int32.reduceAdd, Int32.reduceSub, Int32.reduceMul, Int32.reduceLE, Int32.reduceLT, Int32.reduceToNatClampNeg, b01_0, b01_1, ne_2_0, ne_3_0, ne_4_0, ne_5_0, ne_6_0, ne_m1_0, ne_m2_0, b01_01, b01_n, lt_m2, lt_m1, le_m2, le_m1, Classical.not_not, Bool.or_false, Bool.false_or, Bool.true_or, Bool.or_true, j_Mod_tryVisits_0, b_Mod_tryVisits_0, j_Mod_tryVisits_22, b_Mod_tryVisits_22, j_Mod_tryVisits_40, b_Mod_tryVisits_40, j_Mod_tryVisits_45, b_Mod_tryVisits_45, j_Mod_tryVisits_70, b_Mod_tryVisits_70, j_Mod_tryVisits_89, b_Mod_tryVisits_89, j_Mod_tryVisits_99, b_Mod_tryVisits_99, j_Mod_tryVisits_107, b_Mod_tryVisits_107, j_Mod_tryVisits_141, b_Mod_tryVisits_141, j_Mod_tryVisits_142, b_Mod_tryVisits_142, j_Mod_tryVisits_194, b_Mod_tryVisits_194, j_Mod_tryVisits_195, b_Mod_tryVisits_195, j_Mod_tryVisits_199, b_Mod_tryVisits_199, j_Mod_tryVisits_205, b_Mod_tryVisits_205, an_0, an_1, an_2, an_3, an_4, cl_0, cl_100, cl_2, cl_3, cl_4, ne_0_1, ne_0_2, ne_0_3, ne_0_4, ne_1_0, ne_1_2, ne_1_3, ne_1_4, ne_2_0, ne_2_1, ne_2_3, ne_2_4, ne_3_0, ne_3_1, ne_3_2, ne_3_4, ne_4_0, ne_4_1, ne_4_2, ne_4_3, pp_44_15, pp_44_17, sh_44, sh_47, sh_49, vi_0, vi_100, vi_2, vi_3, vi_4, l0, l1, l2, c1, and_nI hk64 hce, eqN (show s &&& ce < 1000 by omega) (show ce < 1000 by omega), nI_1]
    refine ⟨fun b1 => ?_, fun b1 => ?_⟩
    · rw [sp_vs, if_pos b1] at hq
      refine lp_Mod_tryVisits_45 hn6 hn hv hV hce hk64 n 0 1 _ (by omega) ?_ ?_ ?_ ?_ ?_ (fun L' z0 z1 z2 z3 => ?_)
      case refine_6 =>
        have z3' : L' 3 = some (.long (lN (sp_wt n v ce s))) := z3
        have hw := wN_nI (cl_ge (sp_sum n (I 47 1) (rt I 49) s (I 47 0)))
        have hW : rw_ I n 49 s = nI (wN (rw_ I n 49 s)) := hw.1
        have hW31 : wN (rw_ I n 49 s) < 2 ^ 31 := hw.2
        have hWl : (rw_ I n 49 s).toInt64 = lN (wN (rw_ I n 49 s)) := by
          have := nI_l hW31
          rw [← hW] at this
          exact this
        have hWl' : (sp_warm n (I 47 0) (I 47 1) (rt I 49) s).toInt64 = lN (wN (rw_ I n 49 s)) := hWl
        have hb64 : rb I n 49 s < 64 := rb_lt I hn6 49 s
        have hba : rb I n 49 s &&& ce < 64 := Nat.lt_of_le_of_lt Nat.and_le_left hb64
        have e0 : (0 : Int64) = lN 0 := rfl
        have eB := eqN (show rb I n 49 s &&& ce < 1000 by omega) (show ce < 1000 by omega)
        refine cp_run 60 (fun t => t == 22 || t == 45 || t == 142) ck_Mod_tryVisits ?_
        simp only [cp_vc, cp_vs, cp_jm, cp_ent_en, cp_en_int, cp_en_ref, cp_en_ret, cp_en_long, cp_en_nil, cp_s1_at, cp_s2_at, cp_nl_int, cp_nl_ref, cp_nl_long, cp_nl_none, cp_pop_0, cp_pop_s, reduceIte, if_true, if_false, Bool.false_eq_true, Bool.true_eq_false, false_implies, implies_true, forall_const, true_implies, true_and, and_true, and_self, true_or, or_true, false_or, or_false, Value.category, List.length_cons, List.length_nil, Option.toList_some, Option.toList_none, List.cons_append, List.nil_append, List.append_nil, Prod.mk.injEq, Nat.add_zero, Nat.zero_add, Nat.reduceAdd, Nat.reduceSub, Nat.reduceEqDiff, Nat.reduceLeDiff, Nat.reduceLT, Nat.le_refl, beq_self_eq_true, Nat.reduceBEq, ne_eq, not_true_eq_false, not_false_eq_true, Int32.reduceAdd, Int32.reduceSub, Int32.reduceMul, Int32.reduceLE, Int32.reduceLT, Int32.reduceToNatClampNeg, b01_0, b01_1, ne_2_0, ne_3_0, ne_4_0, ne_5_0, ne_6_0, ne_m1_0, ne_m2_0, b01_01, b01_n, lt_m2, lt_m1, le_m2, le_m1, Classical.not_not, Bool.or_false, Bool.false_or, Bool.true_or, Bool.or_true, j_Mod_tryVisits_0, b_Mod_tryVisits_0, j_Mod_tryVisits_22, b_Mod_tryVisits_22, j_Mod_tryVisits_40, b_Mod_tryVisits_40, j_Mod_tryVisits_45, b_Mod_tryVisits_45, j_Mod_tryVisits_70, b_Mod_tryVisits_70, j_Mod_tryVisits_89, b_Mod_tryVisits_89, j_Mod_tryVisits_99, b_Mod_tryVisits_99, j_Mod_tryVisits_107, b_Mod_tryVisits_107, j_Mod_tryVisits_141, b_Mod_tryVisits_141, j_Mod_tryVisits_142, b_Mod_tryVisits_142, j_Mod_tryVisits_194, b_Mod_tryVisits_194, j_Mod_tryVisits_195, b_Mod_tryVisits_195, j_Mod_tryVisits_199, b_Mod_tryVisits_199, j_Mod_tryVisits_205, b_Mod_tryVisits_205, an_0, an_1, an_2, an_3, an_4, cl_0, cl_100, cl_2, cl_3, cl_4, ne_0_1, ne_0_2, ne_0_3, ne_0_4, ne_1_0, ne_1_2, ne_1_3, ne_1_4, ne_2_0, ne_2_1, ne_2_3, ne_2_4, ne_3_0, ne_3_1, ne_3_2, ne_3_4, ne_4_0, ne_4_1, ne_4_2, ne_4_3, pp_44_15, pp_44_17, sh_44, sh_47, sh_49, vi_0, vi_100, vi_2, vi_3, vi_4, z0, z1, z2, z3', jv35, jv36, jvu35, lN_add]
        have rest : ∀ b2 : Nat, b2 = (if rb I n 49 s &&& ce = ce then sp_wt n v ce s else 0) → ∀ L' : cp_Lo, L' 0 = some (.ref 44) → L' 1 = some (.int (nI ce)) → L' 2 = some (.int (nI s)) → L' 3 = some (.long (lN (sp_wt n v ce s))) → RW g false (d + 5) 0 0 m_Mod_tryVisits 0 0 142 L' [.long (lN b2), .long (lN q.2.1), .ref 44] SH I (jv J (q.1 + sp_wt n v ce s, q.2.1, q.2.2.1, q.2.2.2)) (PP t u r x) Q := by
          intro b2 hb2 L' y0 y1 y2 y3
          refine cp_run 60 (fun t => t == 22 || t == 45) ck_Mod_tryVisits ?_
          simp only [cp_vc, cp_vs, cp_jm, cp_ent_en, cp_en_int, cp_en_ref, cp_en_ret, cp_en_long, cp_en_nil, cp_s1_at, cp_s2_at, cp_nl_int, cp_nl_ref, cp_nl_long, cp_nl_none, cp_pop_0, cp_pop_s, reduceIte, if_true, if_false, Bool.false_eq_true, Bool.true_eq_false, false_implies, implies_true, forall_const, true_implies, true_and, and_true, and_self, true_or, or_true, false_or, or_false, Value.category, List.length_cons, List.length_nil, Option.toList_some, Option.toList_none, List.cons_append, List.nil_append, List.append_nil, Prod.mk.injEq, Nat.add_zero, Nat.zero_add, Nat.reduceAdd, Nat.reduceSub, Nat.reduceEqDiff, Nat.reduceLeDiff, Nat.reduceLT, Nat.le_refl, beq_self_eq_true, Nat.reduceBEq, ne_eq, not_true_eq_false, not_false_eq_true, Int32.reduceAdd, Int32.reduceSub, Int32.reduceMul, Int32.reduceLE, Int32.reduceLT, Int32.reduceToNatClampNeg, b01_0, b01_1, ne_2_0, ne_3_0, ne_4_0, ne_5_0, ne_6_0, ne_m1_0, ne_m2_0, b01_01, b01_n, lt_m2, lt_m1, le_m2, le_m1, Classical.not_not, Bool.or_false, Bool.false_or, Bool.true_or, Bool.or_true, j_Mod_tryVisits_0, b_Mod_tryVisits_0, j_Mod_tryVisits_22, b_Mod_tryVisits_22, j_Mod_tryVisits_40, b_Mod_tryVisits_40, j_Mod_tryVisits_45, b_Mod_tryVisits_45, j_Mod_tryVisits_70, b_Mod_tryVisits_70, j_Mod_tryVisits_89, b_Mod_tryVisits_89, j_Mod_tryVisits_99, b_Mod_tryVisits_99, j_Mod_tryVisits_107, b_Mod_tryVisits_107, j_Mod_tryVisits_141, b_Mod_tryVisits_141, j_Mod_tryVisits_142, b_Mod_tryVisits_142, j_Mod_tryVisits_194, b_Mod_tryVisits_194, j_Mod_tryVisits_195, b_Mod_tryVisits_195, j_Mod_tryVisits_199, b_Mod_tryVisits_199, j_Mod_tryVisits_205, b_Mod_tryVisits_205, an_0, an_1, an_2, an_3, an_4, cl_0, cl_100, cl_2, cl_3, cl_4, ne_0_1, ne_0_2, ne_0_3, ne_0_4, ne_1_0, ne_1_2, ne_1_3, ne_1_4, ne_2_0, ne_2_1, ne_2_3, ne_2_4, ne_3_0, ne_3_1, ne_3_2, ne_3_4, ne_4_0, ne_4_1, ne_4_2, ne_4_3, pp_44_15, pp_44_17, sh_44, sh_47, sh_49, vi_0, vi_100, vi_2, vi_3, vi_4, y0, y1, y2, y3, jv36, jvu36, jv37, lN_add]
          refine c_Mod_warmthOf sh_49 hk64 hn6 hn ?_
          simp only [cp_kk, cp_vc, cp_vs, cp_jm, cp_ent_en, cp_en_int, cp_en_ref, cp_en_ret, cp_en_long, cp_en_nil, cp_s1_at, cp_s2_at, cp_nl_int, cp_nl_ref, cp_nl_long, cp_nl_none, cp_pop_0, cp_pop_s, reduceIte, if_true, if_false, Bool.false_eq_true, Bool.true_eq_false, false_implies, implies_true, forall_const, true_implies, true_and, and_true, and_self, true_or, or_true, false_or, or_false, Value.category, List.length_cons, List.length_nil, Option.toList_some, Option.toList_none, List.cons_append, List.nil_append, List.append_nil, Prod.mk.injEq, Nat.add_zero, Nat.zero_add, Nat.reduceAdd, Nat.reduceSub, Nat.reduceEqDiff, Nat.reduceLeDiff, Nat.reduceLT, Nat.le_refl, beq_self_eq_true, Nat.reduceBEq, ne_eq, not_true_eq_false, not_false_eq_true, Int32.reduceAdd, Int32.reduceSub, Int32.reduceMul, Int32.reduceLE, Int32.reduceLT, Int32.reduceToNatClampNeg, b01_0, b01_1, ne_2_0, ne_3_0, ne_4_0, ne_5_0, ne_6_0, ne_m1_0, ne_m2_0, b01_01, b01_n, lt_m2, lt_m1, le_m2, le_m1, Classical.not_not, Bool.or_false, Bool.false_or, Bool.true_or, Bool.or_true, j_Mod_tryVisits_0, b_Mod_tryVisits_0, j_Mod_tryVisits_22, b_Mod_tryVisits_22, j_Mod_tryVisits_40, b_Mod_tryVisits_40, j_Mod_tryVisits_45, b_Mod_tryVisits_45, j_Mod_tryVisits_70, b_Mod_tryVisits_70, j_Mod_tryVisits_89, b_Mod_tryVisits_89, j_Mod_tryVisits_99, b_Mod_tryVisits_99, j_Mod_tryVisits_107, b_Mod_tryVisits_107, j_Mod_tryVisits_141, b_Mod_tryVisits_141, j_Mod_tryVisits_142, b_Mod_tryVisits_142, j_Mod_tryVisits_194, b_Mod_tryVisits_194, j_Mod_tryVisits_195, b_Mod_tryVisits_195, j_Mod_tryVisits_199, b_Mod_tryVisits_199, j_Mod_tryVisits_205, b_Mod_tryVisits_205, an_0, an_1, an_2, an_3, an_4, cl_0, cl_100, cl_2, cl_3, cl_4, ne_0_1, ne_0_2, ne_0_3, ne_0_4, ne_1_0, ne_1_2, ne_1_3, ne_1_4, ne_2_0, ne_2_1, ne_2_3, ne_2_4, ne_3_0, ne_3_1, ne_3_2, ne_3_4, ne_4_0, ne_4_1, ne_4_2, ne_4_3, pp_44_15, pp_44_17, sh_44, sh_47, sh_49, vi_0, vi_100, vi_2, vi_3, vi_4, y0, y1, y2, y3, hWl', lN_add, lN_mul, jvu37, jv38]
          refine c_Mod_warmthOf sh_49 hk64 hn6 hn ?_
          simp only [cp_kk, cp_vc, cp_vs, cp_jm, cp_ent_en, cp_en_int, cp_en_ref, cp_en_ret, cp_en_long, cp_en_nil, cp_s1_at, cp_s2_at, cp_nl_int, cp_nl_ref, cp_nl_long, cp_nl_none, cp_pop_0, cp_pop_s, reduceIte, if_true, if_false, Bool.false_eq_true, Bool.true_eq_false, false_implies, implies_true, forall_const, true_implies, true_and, and_true, and_self, true_or, or_true, false_or, or_false, Value.category, List.length_cons, List.length_nil, Option.toList_some, Option.toList_none, List.cons_append, List.nil_append, List.append_nil, Prod.mk.injEq, Nat.add_zero, Nat.zero_add, Nat.reduceAdd, Nat.reduceSub, Nat.reduceEqDiff, Nat.reduceLeDiff, Nat.reduceLT, Nat.le_refl, beq_self_eq_true, Nat.reduceBEq, ne_eq, not_true_eq_false, not_false_eq_true, Int32.reduceAdd, Int32.reduceSub, Int32.reduceMul, Int32.reduceLE, Int32.reduceLT, Int32.reduceToNatClampNeg, b01_0, b01_1, ne_2_0, ne_3_0, ne_4_0, ne_5_0, ne_6_0, ne_m1_0, ne_m2_0, b01_01, b01_n, lt_m2, lt_m1, le_m2, le_m1, Classical.not_not, Bool.or_false, Bool.false_or, Bool.true_or, Bool.or_true, j_Mod_tryVisits_0, b_Mod_tryVisits_0, j_Mod_tryVisits_22, b_Mod_tryVisits_22, j_Mod_tryVisits_40, b_Mod_tryVisits_40, j_Mod_tryVisits_45, b_Mod_tryVisits_45, j_Mod_tryVisits_70, b_Mod_tryVisits_70, j_Mod_tryVisits_89, b_Mod_tryVisits_89, j_Mod_tryVisits_99, b_Mod_tryVisits_99, j_Mod_tryVisits_107, b_Mod_tryVisits_107, j_Mod_tryVisits_141, b_Mod_tryVisits_141, j_Mod_tryVisits_142, b_Mod_tryVisits_142, j_Mod_tryVisits_194, b_Mod_tryVisits_194, j_Mod_tryVisits_195, b_Mod_tryVisits_195, j_Mod_tryVisits_199, b_Mod_tryVisits_199, j_Mod_tryVisits_205, b_Mod_tryVisits_205, an_0, an_1, an_2, an_3, an_4, cl_0, cl_100, cl_2, cl_3, cl_4, ne_0_1, ne_0_2, ne_0_3, ne_0_4, ne_1_0, ne_1_2, ne_1_3, ne_1_4, ne_2_0, ne_2_1, ne_2_3, ne_2_4, ne_3_0, ne_3_1, ne_3_2, ne_3_4, ne_4_0, ne_4_1, ne_4_2, ne_4_3, pp_44_15, pp_44_17, sh_44, sh_47, sh_49, vi_0, vi_100, vi_2, vi_3, vi_4, y0, y1, y2, y3, e0, lN_add, jvu38, jv38, nI_1]
          refine ⟨fun b3 => ih (s + 1) _ _ (by omega) ?_ ?_ ?_ ?_, fun b3 => ih (s + 1) _ _ (by omega) ?_ ?_ ?_ ?_⟩
          case refine_4 =>
            have b3' : ¬ rw_ I n 49 s < I 47 2 := Int32.not_lt.2 b3
            simp only [b3', decide_false, Bool.false_eq_true, if_false] at hq
            rw [← hb2] at hq
            exact hq
          case refine_8 =>
            have b3' : rw_ I n 49 s < I 47 2 := Int32.not_le.1 b3
            simp only [b3', decide_true, if_true] at hq
            rw [← hb2] at hq
            exact hq
          all_goals simp [cp_s1_at, cp_s2_at, cp_nl_int, cp_nl_ref, cp_nl_long, y0, y1, y2]
        refine c_Mod_bearersOf sh_49 hk64 hn6 hn ?_
        simp only [cp_kk, cp_vc, cp_vs, cp_jm, cp_ent_en, cp_en_int, cp_en_ref, cp_en_ret, cp_en_long, cp_en_nil, cp_s1_at, cp_s2_at, cp_nl_int, cp_nl_ref, cp_nl_long, cp_nl_none, cp_pop_0, cp_pop_s, reduceIte, if_true, if_false, Bool.false_eq_true, Bool.true_eq_false, false_implies, implies_true, forall_const, true_implies, true_and, and_true, and_self, true_or, or_true, false_or, or_false, Value.category, List.length_cons, List.length_nil, Option.toList_some, Option.toList_none, List.cons_append, List.nil_append, List.append_nil, Prod.mk.injEq, Nat.add_zero, Nat.zero_add, Nat.reduceAdd, Nat.reduceSub, Nat.reduceEqDiff, Nat.reduceLeDiff, Nat.reduceLT, Nat.le_refl, beq_self_eq_true, Nat.reduceBEq, ne_eq, not_true_eq_false, not_false_eq_true, Int32.reduceAdd, Int32.reduceSub, Int32.reduceMul, Int32.reduceLE, Int32.reduceLT, Int32.reduceToNatClampNeg, b01_0, b01_1, ne_2_0, ne_3_0, ne_4_0, ne_5_0, ne_6_0, ne_m1_0, ne_m2_0, b01_01, b01_n, lt_m2, lt_m1, le_m2, le_m1, Classical.not_not, Bool.or_false, Bool.false_or, Bool.true_or, Bool.or_true, j_Mod_tryVisits_0, b_Mod_tryVisits_0, j_Mod_tryVisits_22, b_Mod_tryVisits_22, j_Mod_tryVisits_40, b_Mod_tryVisits_40, j_Mod_tryVisits_45, b_Mod_tryVisits_45, j_Mod_tryVisits_70, b_Mod_tryVisits_70, j_Mod_tryVisits_89, b_Mod_tryVisits_89, j_Mod_tryVisits_99, b_Mod_tryVisits_99, j_Mod_tryVisits_107, b_Mod_tryVisits_107, j_Mod_tryVisits_141, b_Mod_tryVisits_141, j_Mod_tryVisits_142, b_Mod_tryVisits_142, j_Mod_tryVisits_194, b_Mod_tryVisits_194, j_Mod_tryVisits_195, b_Mod_tryVisits_195, j_Mod_tryVisits_199, b_Mod_tryVisits_199, j_Mod_tryVisits_205, b_Mod_tryVisits_205, an_0, an_1, an_2, an_3, an_4, cl_0, cl_100, cl_2, cl_3, cl_4, ne_0_1, ne_0_2, ne_0_3, ne_0_4, ne_1_0, ne_1_2, ne_1_3, ne_1_4, ne_2_0, ne_2_1, ne_2_3, ne_2_4, ne_3_0, ne_3_1, ne_3_2, ne_3_4, ne_4_0, ne_4_1, ne_4_2, ne_4_3, pp_44_15, pp_44_17, sh_44, sh_47, sh_49, vi_0, vi_100, vi_2, vi_3, vi_4, z0, z1, z2, z3', e0, and_nI hb64 hce, eB]
        refine ⟨fun b2 => rest 0 (by rw [if_neg b2]) L' z0 z1 z2 z3', fun b2 => rest _ (by rw [if_pos b2]) L' z0 z1 z2 z3'⟩
      case refine_4 =>
        simp [cp_s1_at, cp_s2_at, cp_nl_int, cp_nl_ref, cp_nl_long]
        rfl
      all_goals simp [cp_s1_at, cp_s2_at, cp_nl_int, cp_nl_ref, cp_nl_long, l0, l1, l2, nI_0]
    · rw [sp_vs, if_neg b1] at hq
      refine ih (s + 1) q _ (by omega) ?_ ?_ ?_ hq <;> simp [cp_s1_at, cp_nl_int, cp_nl_ref, l0, l1, l2]
theorem c_Mod_tryVisits {n v ce : Nat} (hn6 : n ≤ 6) (hn : I 47 4 = nI n) (hv : v ≤ 100) (hV : I 47 3 = nI v) (hce : ce < 64) (h : Q none SH I (jv J (rvq I n v ce)) (PP t u r x)) : MW g false (d + 5) 0 0 m_Mod_tryVisits [.ref 44, .int (nI ce)] SH I J (PP t u r x) Q := by
  refine MW.of ok_Mod_tryVisits (Nat.le_of_ble_eq_true rfl) ?_
  refine cp_run 60 (fun t => t == 22) ck_Mod_tryVisits ?_
  simp only [cp_vc, cp_vs, cp_jm, cp_ent_en, cp_en_int, cp_en_ref, cp_en_ret, cp_en_long, cp_en_nil, cp_s1_at, cp_s2_at, cp_nl_int, cp_nl_ref, cp_nl_long, cp_nl_none, cp_pop_0, cp_pop_s, reduceIte, if_true, if_false, Bool.false_eq_true, Bool.true_eq_false, false_implies, implies_true, forall_const, true_implies, true_and, and_true, and_self, true_or, or_true, false_or, or_false, Value.category, List.length_cons, List.length_nil, Option.toList_some, Option.toList_none, List.cons_append, List.nil_append, List.append_nil, Prod.mk.injEq, Nat.add_zero, Nat.zero_add, Nat.reduceAdd, Nat.reduceSub, Nat.reduceEqDiff, Nat.reduceLeDiff, Nat.reduceLT, Nat.le_refl, beq_self_eq_true, Nat.reduceBEq, ne_eq, not_true_eq_false, not_false_eq_true, Int32.reduceAdd, Int32.reduceSub, Int32.reduceMul, Int32.reduceLE, Int32.reduceLT, Int32.reduceToNatClampNeg, b01_0, b01_1, ne_2_0, ne_3_0, ne_4_0, ne_5_0, ne_6_0, ne_m1_0, ne_m2_0, b01_01, b01_n, lt_m2, lt_m1, le_m2, le_m1, Classical.not_not, j_Mod_tryVisits_0, b_Mod_tryVisits_0, j_Mod_tryVisits_22, b_Mod_tryVisits_22, j_Mod_tryVisits_40, b_Mod_tryVisits_40, j_Mod_tryVisits_45, b_Mod_tryVisits_45, j_Mod_tryVisits_70, b_Mod_tryVisits_70, j_Mod_tryVisits_89, b_Mod_tryVisits_89, j_Mod_tryVisits_99, b_Mod_tryVisits_99, j_Mod_tryVisits_107, b_Mod_tryVisits_107, j_Mod_tryVisits_141, b_Mod_tryVisits_141, j_Mod_tryVisits_142, b_Mod_tryVisits_142, j_Mod_tryVisits_194, b_Mod_tryVisits_194, j_Mod_tryVisits_195, b_Mod_tryVisits_195, j_Mod_tryVisits_199, b_Mod_tryVisits_199, j_Mod_tryVisits_205, b_Mod_tryVisits_205, an_0, an_1, an_2, an_3, an_4, cl_0, cl_100, cl_2, cl_3, cl_4, ne_0_1, ne_0_2, ne_0_3, ne_0_4, ne_1_0, ne_1_2, ne_1_3, ne_1_4, ne_2_0, ne_2_1, ne_2_3, ne_2_4, ne_3_0, ne_3_1, ne_3_2, ne_3_4, ne_4_0, ne_4_1, ne_4_2, ne_4_3, pp_44_15, pp_44_17, sh_44, sh_47, sh_49, vi_0, vi_100, vi_2, vi_3, vi_4, jv_0]
  refine lp_Mod_tryVisits hn6 hn hv hV hce (2 ^ n) 0 (0, 0, 0, 0) _ (by omega) ?_ ?_ ?_ h <;> simp [cp_s1_at, cp_ent_en, cp_en_int, cp_en_ref, cp_nl_int, cp_nl_ref, nI_0]
theorem rvq_gd (I : cp_I) (n v ce : Nat) : rvq (gd I) n v ce = rvq I n v ce := by
  unfold rvq
  rw [rbf_gd, gd47, show rw_ (gd I) n 49 = rw_ I n 49 from funext fun s => rw_gd I n s]
/-- bounds of the sums -/
theorem wt_le {n v ce s : Nat} (hv : v ≤ 100) : sp_wt n v ce s ≤ 100 ^ n := by
  unfold sp_wt
  have key : ∀ (m k z N : Nat), z ≤ N → fo (fun b z => z * (if ce.testBit b = true then 1 else if s.testBit b = true then v else 100 - v)) m k z ≤ N * 100 ^ m := by
    intro m
    induction m with
    | zero =>
      intro k z N h
      simpa [fo] using h
    | succ m ih =>
      intro k z N h
      rw [fo]
      have h0 : (if ce.testBit k = true then 1 else if s.testBit k = true then v else 100 - v) ≤ 100 := by
        split
        · omega
        · split <;> omega
      have h1 : z * (if ce.testBit k = true then 1 else if s.testBit k = true then v else 100 - v) ≤ N * 100 := Nat.mul_le_mul h h0
      have := ih (k + 1) _ _ h1
      rw [Nat.pow_succ, Nat.mul_comm (100 ^ m), ← Nat.mul_assoc]
      exact this
  have := key n 0 1 1 (Nat.le_refl _)
  simpa using this
theorem cl_le (z : Int32) : sp_cl z ≤ 200 := by
  unfold sp_cl
  split
  · decide +kernel
  · split
    · decide +kernel
    · rename_i h1 h2
      exact Int32.not_lt.1 h2
theorem wN_le (I : cp_I) (n s : Nat) : wN (rw_ I n 49 s) ≤ 200 := by
  have h := wN_nI (cl_ge (sp_sum n (I 47 1) (rt I 49) s (I 47 0)))
  have h2 := cl_le (sp_sum n (I 47 1) (rt I 49) s (I 47 0))
  rw [h.1] at h2
  exact (nI_leI h.2 (by omega)).1 h2
theorem vs_le {n v ce N : Nat} {B W : Nat → Nat} {C : Nat → Bool} (hN : ∀ s, sp_wt n v ce s ≤ N) (hW : ∀ s, W s ≤ 200) : ∀ (m k : Nat) (q : viT) (M : Nat), q.1 ≤ M → q.2.1 ≤ M → q.2.2.1 ≤ M * 200 → q.2.2.2 ≤ M → (fo (sp_vs n v ce B W C) m k q).1 ≤ M + N * m ∧ (fo (sp_vs n v ce B W C) m k q).2.1 ≤ M + N * m ∧ (fo (sp_vs n v ce B W C) m k q).2.2.1 ≤ (M + N * m) * 200 ∧ (fo (sp_vs n v ce B W C) m k q).2.2.2 ≤ M + N * m := by
  intro m
  induction m with
  | zero =>
    intro k q M h1 h2 h3 h4
    simpa [fo] using ⟨h1, h2, h3, h4⟩
  | succ m ih =>
    intro k q M h1 h2 h3 h4
    rw [fo]
    have e : M + N * (m + 1) = M + N + N * m := by rw [Nat.mul_succ]; omega
    rw [e]
    have hk := hN k
    have hw := Nat.mul_le_mul hk (hW k)
    refine ih (k + 1) _ (M + N) ?_ ?_ ?_ ?_
    · unfold sp_vs
      split
      · simp only
        omega
      · omega
    · unfold sp_vs
      split
      · simp only
        split <;> omega
      · omega
    · unfold sp_vs
      split
      · simp only
        rw [Nat.add_mul]
        omega
      · rw [Nat.add_mul]
        omega
    · unfold sp_vs
      split
      · simp only
        split <;> omega
      · omega
theorem rvq_le (I : cp_I) {n v ce : Nat} (hn6 : n ≤ 6) (hv : v ≤ 100) : (rvq I n v ce).1 < 2 ^ 63 ∧ (rvq I n v ce).2.1 < 2 ^ 63 ∧ (rvq I n v ce).2.2.1 < 2 ^ 63 ∧ (rvq I n v ce).2.2.2 < 2 ^ 63 := by
  have h64 : 2 ^ n ≤ 64 := Nat.pow_le_pow_right (n := 2) (by omega) hn6
  have h100 : 100 ^ n ≤ 100 ^ 6 := Nat.pow_le_pow_right (n := 100) (by omega) hn6
  have := vs_le (n := n) (v := v) (ce := ce) (N := 100 ^ 6) (B := rb I n 49) (W := fun s => wN (rw_ I n 49 s)) (C := fun s => decide (rw_ I n 49 s < I 47 2)) (fun s => Nat.le_trans (wt_le hv) h100) (wN_le I n) (2 ^ n) 0 (0, 0, 0, 0) 0 (Nat.le_refl _) (Nat.le_refl _) (Nat.le_refl _) (Nat.le_refl _)
  have h2 : (100 ^ 6) * 2 ^ n ≤ (100 ^ 6) * 64 := Nat.mul_le_mul (Nat.le_refl _) h64
  unfold rvq
  refine ⟨?_, ?_, ?_, ?_⟩ <;> omega
end Mod21
