section Mod2
variable {g : cp_G} {d : Nat} {sh : cp_H} {I : cp_I} {J : cp_J} {P : cp_P} {Q : cp_QT} {t u r x : Nat}
theorem c_Mod_hb {s k : Nat} (hs : s < 64) (hk : k < 8) (h : Q (some (.int (if s.testBit k = true then 1 else 0))) sh I J P) : MW g false (d + 1) 0 0 m_Mod_hasBit [.int (nI s), .int (nI k)] sh I J P Q := by
  refine c_Mod_hasBit ?_
  have e := hb_iff hs hk
  simp only [e]
  exact h
theorem c_Mod_tieOf {ρ i j : Nat} (hρ : cp_sh SH ρ = (0, 39)) (hi : i < 6) (hj : j < 6) (h : Q (some (.int (rt I ρ i j))) SH I J P) : MW g false (d + 1) 0 0 m_Mod_tieOf [.ref ρ, .int (nI i), .int (nI j)] SH I J P Q := by
  refine MW.of ok_Mod_tieOf (Nat.le_of_ble_eq_true rfl) ?_
  refine cp_run 20 (fun _ => false) ck_Mod_tieOf ?_
  simp only [cp_vc, cp_vs, cp_jm, cp_ent_en, cp_en_int, cp_en_ref, cp_en_ret, cp_en_long, cp_en_nil, cp_s1_at, cp_s2_at, cp_nl_int, cp_nl_ref, cp_nl_long, cp_nl_none, cp_pop_0, cp_pop_s, reduceIte, if_true, if_false, Bool.false_eq_true, Bool.true_eq_false, false_implies, implies_true, forall_const, true_implies, true_and, and_true, and_self, true_or, or_true, false_or, or_false, Value.category, List.length_cons, List.length_nil, Option.toList_some, Option.toList_none, List.cons_append, List.nil_append, List.append_nil, Prod.mk.injEq, Nat.add_zero, Nat.zero_add, Nat.reduceAdd, Nat.reduceSub, Nat.reduceEqDiff, Nat.reduceLeDiff, Nat.reduceLT, Nat.le_refl, beq_self_eq_true, Nat.reduceBEq, ne_eq, not_true_eq_false, not_false_eq_true, Int32.reduceAdd, Int32.reduceSub, Int32.reduceMul, Int32.reduceLE, Int32.reduceLT, Int32.reduceToNatClampNeg, b01_0, b01_1, ne_2_0, ne_3_0, ne_4_0, ne_5_0, ne_6_0, ne_m1_0, ne_m2_0, b01_01, b01_n, lt_m2, lt_m1, le_m2, le_m1, Classical.not_not, j_Mod_tieOf_0, b_Mod_tieOf_0, an_0, an_1, an_6, cl_6, ne_0_1, ne_0_6, ne_1_0, ne_1_6, ne_6_0, ne_6_1, vi_6, hρ]
  have e : (6 : Int32) * nI i + nI j = nI (6 * i + j) := by rw [show (6 : Int32) = nI 6 from rfl, pk_mul, nI_add]
  rw [e]
  refine ⟨vin (by omega) (by omega), ?_⟩
  rw [ncl (by omega)]
  exact h
/-- whom one knows, by a row of ties -/
theorem lp_Mod_knownBy {ρ i n : Nat} (hρ : cp_sh SH ρ = (0, 39)) (hi : i < 6) (hn6 : n ≤ 6) (hn : I 47 4 = nI n) : ∀ (m k z : Nat) (L : cp_Lo), k + m = n → z < 64 → L 0 = some (.ref 44) → L 1 = some (.ref ρ) → L 2 = some (.int (nI i)) → L 3 = some (.int (nI z)) → L 4 = some (.int (nI k)) →
    Q (some (.int (nI (fo (fun b z => if decide (0 < rt I ρ i b) = true then z ||| 2 ^ b else z) m k z)))) SH I J (PP t u r x) → RW g false (d + 2) 0 0 m_Mod_knownBy 0 0 5 L [] SH I J (PP t u r x) Q := by
  intro m
  induction m with
  | zero =>
    intro k z L hk hz h0 h1 h2 h3 h4 hq
    have c : nI n ≤ nI k := nI_le (by omega) (by omega)
    refine cp_run 40 (fun t => t == 5) ck_Mod_knownBy ?_
    simp only [cp_vc, cp_vs, cp_jm, cp_ent_en, cp_en_int, cp_en_ref, cp_en_ret, cp_en_long, cp_en_nil, cp_s1_at, cp_s2_at, cp_nl_int, cp_nl_ref, cp_nl_long, cp_nl_none, cp_pop_0, cp_pop_s, reduceIte, if_true, if_false, Bool.false_eq_true, Bool.true_eq_false, false_implies, implies_true, forall_const, true_implies, true_and, and_true, and_self, true_or, or_true, false_or, or_false, Value.category, List.length_cons, List.length_nil, Option.toList_some, Option.toList_none, List.cons_append, List.nil_append, List.append_nil, Prod.mk.injEq, Nat.add_zero, Nat.zero_add, Nat.reduceAdd, Nat.reduceSub, Nat.reduceEqDiff, Nat.reduceLeDiff, Nat.reduceLT, Nat.le_refl, beq_self_eq_true, Nat.reduceBEq, ne_eq, not_true_eq_false, not_false_eq_true, Int32.reduceAdd, Int32.reduceSub, Int32.reduceMul, Int32.reduceLE, Int32.reduceLT, Int32.reduceToNatClampNeg, b01_0, b01_1, ne_2_0, ne_3_0, ne_4_0, ne_5_0, ne_6_0, ne_m1_0, ne_m2_0, b01_01, b01_n, lt_m2, lt_m1, le_m2, le_m1, Classical.not_not, j_Mod_knownBy_0, b_Mod_knownBy_0, j_Mod_knownBy_5, b_Mod_knownBy_5, j_Mod_knownBy_34, b_Mod_knownBy_34, j_Mod_knownBy_35, b_Mod_knownBy_35, j_Mod_knownBy_43, b_Mod_knownBy_43, an_0, an_1, an_4, cl_0, cl_1, cl_4, ne_0_1, ne_0_4, ne_1_0, ne_1_4, ne_4_0, ne_4_1, pp_44_15, sh_44, sh_47, vi_0, vi_1, vi_4, h0, h1, h2, h3, h4, hn, c]
    exact hq
  | succ m ih =>
    intro k z L hk hz h0 h1 h2 h3 h4 hq
    have c : ¬ nI n ≤ nI k := nI_ge (by omega) (by omega)
    refine cp_run 40 (fun t => t == 5) ck_Mod_knownBy ?_
    simp only [cp_vc, cp_vs, cp_jm, cp_ent_en, cp_en_int, cp_en_ref, cp_en_ret, cp_en_long, cp_en_nil, cp_s1_at, cp_s2_at, cp_nl_int, cp_nl_ref, cp_nl_long, cp_nl_none, cp_pop_0, cp_pop_s, reduceIte, if_true, if_false, Bool.false_eq_true, Bool.true_eq_false, false_implies, implies_true, forall_const, true_implies, true_and, and_true, and_self, true_or, or_true, false_or, or_false, Value.category, List.length_cons, List.length_nil, Option.toList_some, Option.toList_none, List.cons_append, List.nil_append, List.append_nil, Prod.mk.injEq, Nat.add_zero, Nat.zero_add, Nat.reduceAdd, Nat.reduceSub, Nat.reduceEqDiff, Nat.reduceLeDiff, Nat.reduceLT, Nat.le_refl, beq_self_eq_true, Nat.reduceBEq, ne_eq, not_true_eq_false, not_false_eq_true, Int32.reduceAdd, Int32.reduceSub, Int32.reduceMul, Int32.reduceLE, Int32.reduceLT, Int32.reduceToNatClampNeg, b01_0, b01_1, ne_2_0, ne_3_0, ne_4_0, ne_5_0, ne_6_0, ne_m1_0, ne_m2_0, b01_01, b01_n, lt_m2, lt_m1, le_m2, le_m1, Classical.not_not, j_Mod_knownBy_0, b_Mod_knownBy_0, j_Mod_knownBy_5, b_Mod_knownBy_5, j_Mod_knownBy_34, b_Mod_knownBy_34, j_Mod_knownBy_35, b_Mod_knownBy_35, j_Mod_knownBy_43, b_Mod_knownBy_43, an_0, an_1, an_4, cl_0, cl_1, cl_4, ne_0_1, ne_0_4, ne_1_0, ne_1_4, ne_4_0, ne_4_1, pp_44_15, sh_44, sh_47, vi_0, vi_1, vi_4, h0, h1, h2, h3, h4, hn, c]
    refine c_Mod_tieOf hρ hi (by omega) ?_
    simp only [cp_kk, cp_vc, cp_vs, cp_jm, cp_ent_en, cp_en_int, cp_en_ref, cp_en_ret, cp_en_long, cp_en_nil, cp_s1_at, cp_s2_at, cp_nl_int, cp_nl_ref, cp_nl_long, cp_nl_none, cp_pop_0, cp_pop_s, reduceIte, if_true, if_false, Bool.false_eq_true, Bool.true_eq_false, false_implies, implies_true, forall_const, true_implies, true_and, and_true, and_self, true_or, or_true, false_or, or_false, Value.category, List.length_cons, List.length_nil, Option.toList_some, Option.toList_none, List.cons_append, List.nil_append, List.append_nil, Prod.mk.injEq, Nat.add_zero, Nat.zero_add, Nat.reduceAdd, Nat.reduceSub, Nat.reduceEqDiff, Nat.reduceLeDiff, Nat.reduceLT, Nat.le_refl, beq_self_eq_true, Nat.reduceBEq, ne_eq, not_true_eq_false, not_false_eq_true, Int32.reduceAdd, Int32.reduceSub, Int32.reduceMul, Int32.reduceLE, Int32.reduceLT, Int32.reduceToNatClampNeg, b01_0, b01_1, ne_2_0, ne_3_0, ne_4_0, ne_5_0, ne_6_0, ne_m1_0, ne_m2_0, b01_01, b01_n, lt_m2, lt_m1, le_m2, le_m1, Classical.not_not, Bool.or_false, Bool.false_or, Bool.true_or, Bool.or_true, j_Mod_knownBy_0, b_Mod_knownBy_0, j_Mod_knownBy_5, b_Mod_knownBy_5, j_Mod_knownBy_34, b_Mod_knownBy_34, j_Mod_knownBy_35, b_Mod_knownBy_35, j_Mod_knownBy_43, b_Mod_knownBy_43, an_0, an_1, an_4, cl_0, cl_1, cl_4, ne_0_1, ne_0_4, ne_1_0, ne_1_4, ne_4_0, ne_4_1, pp_44_15, sh_44, sh_47, vi_0, vi_1, vi_4, h0, h1, h2, h3, h4, hn, c, sh1 (show k < 8 by omega), nI_1]
    rw [fo] at hq
    refine ⟨fun c2 => ih (k + 1) z _ (by omega) hz ?_ ?_ ?_ ?_ ?_ ?_, fun c2 => ih (k + 1) (z ||| 2 ^ k) _ (by omega) (or_lt64 hz (pow_lt64 (by omega))) ?_ ?_ ?_ ?_ ?_ ?_⟩
    · simp [cp_s1_at, h0]
    · simp [cp_s1_at, h1]
    · simp [cp_s1_at, h2, cp_nl_int]
    · simp [cp_s1_at, cp_nl_int]
    · simp [cp_s1_at]
    · rw [if_neg (by simpa using c2)] at hq
      exact hq
    · simp [cp_s1_at, h0]
    · simp [cp_s1_at, h1]
    · simp [cp_s1_at, h2, cp_nl_int]
    · simp [cp_s1_at, cp_nl_int, or_nI hz (pow_lt64 (show k < 6 by omega))]
    · simp [cp_s1_at]
    · rw [if_pos (by simpa using c2)] at hq
      exact hq
theorem c_Mod_knownBy {ρ i n : Nat} (hρ : cp_sh SH ρ = (0, 39)) (hi : i < 6) (hn6 : n ≤ 6) (hn : I 47 4 = nI n) (h : Q (some (.int (nI (sp_set n (fun o => decide (0 < rt I ρ i o)))))) SH I J (PP t u r x)) : MW g false (d + 2) 0 0 m_Mod_knownBy [.ref 44, .ref ρ, .int (nI i)] SH I J (PP t u r x) Q := by
  refine MW.of ok_Mod_knownBy (Nat.le_of_ble_eq_true rfl) ?_
  refine cp_run 20 (fun t => t == 5) ck_Mod_knownBy ?_
  simp only [cp_vc, cp_vs, cp_jm, cp_ent_en, cp_en_int, cp_en_ref, cp_en_ret, cp_en_long, cp_en_nil, cp_s1_at, cp_s2_at, cp_nl_int, cp_nl_ref, cp_nl_long, cp_nl_none, cp_pop_0, cp_pop_s, reduceIte, if_true, if_false, Bool.false_eq_true, Bool.true_eq_false, false_implies, implies_true, forall_const, true_implies, true_and, and_true, and_self, true_or, or_true, false_or, or_false, Value.category, List.length_cons, List.length_nil, Option.toList_some, Option.toList_none, List.cons_append, List.nil_append, List.append_nil, Prod.mk.injEq, Nat.add_zero, Nat.zero_add, Nat.reduceAdd, Nat.reduceSub, Nat.reduceEqDiff, Nat.reduceLeDiff, Nat.reduceLT, Nat.le_refl, beq_self_eq_true, Nat.reduceBEq, ne_eq, not_true_eq_false, not_false_eq_true, Int32.reduceAdd, Int32.reduceSub, Int32.reduceMul, Int32.reduceLE, Int32.reduceLT, Int32.reduceToNatClampNeg, b01_0, b01_1, ne_2_0, ne_3_0, ne_4_0, ne_5_0, ne_6_0, ne_m1_0, ne_m2_0, b01_01, b01_n, lt_m2, lt_m1, le_m2, le_m1, Classical.not_not, j_Mod_knownBy_0, b_Mod_knownBy_0, j_Mod_knownBy_5, b_Mod_knownBy_5, j_Mod_knownBy_34, b_Mod_knownBy_34, j_Mod_knownBy_35, b_Mod_knownBy_35, j_Mod_knownBy_43, b_Mod_knownBy_43, an_0, an_1, an_4, cl_0, cl_1, cl_4, ne_0_1, ne_0_4, ne_1_0, ne_1_4, ne_4_0, ne_4_1, pp_44_15, sh_44, sh_47, vi_0, vi_1, vi_4]
  refine lp_Mod_knownBy hρ hi hn6 hn n 0 0 _ (by omega) (by omega) ?_ ?_ ?_ ?_ ?_ h <;> simp [cp_s1_at, cp_ent_en, cp_en_int, cp_en_ref, cp_nl_int, cp_nl_ref, nI_0]
theorem c_Mod_needOf {b : Nat} (hb : b < 6) (h : Q (some (.int (rn I b))) SH I J (PP t u r x)) : MW g false (d + 1) 0 0 m_Mod_needOf [.ref 44, .int (nI b)] SH I J (PP t u r x) Q := by
  refine MW.of ok_Mod_needOf (Nat.le_of_ble_eq_true rfl) ?_
  have e1 : (10 : Int32) + 2 * nI b = nI (10 + 2 * b) := by rw [show (2 : Int32) = nI 2 from rfl, pk_mul, show (10 : Int32) = nI 10 from rfl, nI_add]
  have e2 : nI (10 + 2 * b) + 1 = nI (11 + 2 * b) := by rw [nI_1]; congr 1; omega
  have v1 := vin (show 10 + 2 * b < 138 by omega) (by omega)
  have v2 := vin (show 11 + 2 * b < 138 by omega) (by omega)
  have w1 := ncl (show 10 + 2 * b < 1000 by omega)
  have w2 := ncl (show 11 + 2 * b < 1000 by omega)
  refine cp_run 60 (fun _ => false) ck_Mod_needOf ?_
  simp only [cp_vc, cp_vs, cp_jm, cp_ent_en, cp_en_int, cp_en_ref, cp_en_ret, cp_en_long, cp_en_nil, cp_s1_at, cp_s2_at, cp_nl_int, cp_nl_ref, cp_nl_long, cp_nl_none, cp_pop_0, cp_pop_s, reduceIte, if_true, if_false, Bool.false_eq_true, Bool.true_eq_false, false_implies, implies_true, forall_const, true_implies, true_and, and_true, and_self, true_or, or_true, false_or, or_false, Value.category, List.length_cons, List.length_nil, Option.toList_some, Option.toList_none, List.cons_append, List.nil_append, List.append_nil, Prod.mk.injEq, Nat.add_zero, Nat.zero_add, Nat.reduceAdd, Nat.reduceSub, Nat.reduceEqDiff, Nat.reduceLeDiff, Nat.reduceLT, Nat.le_refl, beq_self_eq_true, Nat.reduceBEq, ne_eq, not_true_eq_false, not_false_eq_true, Int32.reduceAdd, Int32.reduceSub, Int32.reduceMul, Int32.reduceLE, Int32.reduceLT, Int32.reduceToNatClampNeg, b01_0, b01_1, ne_2_0, ne_3_0, ne_4_0, ne_5_0, ne_6_0, ne_m1_0, ne_m2_0, b01_01, b01_n, lt_m2, lt_m1, le_m2, le_m1, Classical.not_not, j_Mod_needOf_0, b_Mod_needOf_0, j_Mod_needOf_33, b_Mod_needOf_33, j_Mod_needOf_59, b_Mod_needOf_59, j_Mod_needOf_63, b_Mod_needOf_63, j_Mod_needOf_64, b_Mod_needOf_64, an_0, an_1, an_10, an_2, an_5, cl_0, cl_1, cl_10, cl_2, cl_5, ne_0_1, ne_0_2, ne_0_5, ne_1_0, ne_1_2, ne_1_5, ne_2_0, ne_2_1, ne_2_5, ne_5_0, ne_5_1, ne_5_2, pp_44_15, sh_44, sh_47, vi_0, vi_1, vi_10, vi_2, vi_5, e1, e2, v1, v2, w1, w2]
  simp only [rn, sp_need] at h
  grind
end Mod2
