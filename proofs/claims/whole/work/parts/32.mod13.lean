section Mod13
variable {g : cp_G} {d : Nat} {sh : cp_H} {I : cp_I} {J : cp_J} {P : cp_P} {Q : cp_QT} {t u r x : Nat}
/-- the reference's unsure pairs and what was felt -/
def rU (I : cp_I) (um tm : Nat) (ua ub fs : Nat → Nat) : Prop := (I 47 7 = nI um ∧ um ≤ 4) ∧ (I 47 8 = nI tm ∧ tm ≤ 4) ∧ (∀ k, k < um → I 47 (64 + 3 * k) = nI (ua k) ∧ I 47 (65 + 3 * k) = nI (ub k) ∧ ua k < 6 ∧ ub k < 6) ∧ (∀ k, k < tm → I 47 (77 + 2 * k) = nI (fs k) ∧ fs k < 64)
/-- the trial by which some unsure pairs know each other -/
def tr1 (I : cp_I) (ua ub : Nat → Nat) (s : Nat) (k : Nat) (M : cp_I) : cp_I := if s.testBit k = true then cp_u (cp_u M 56 (6 * ua k + ub k) (I 47 (66 + 3 * k))) 56 (6 * ub k + ua k) (I 47 (66 + 3 * k)) else M
theorem tr1_o (I : cp_I) (ua ub : Nat → Nat) (s k : Nat) (M : cp_I) {a : Nat} (h : a ≠ 56) (j : Nat) : tr1 I ua ub s k M a j = M a j := by
  unfold tr1
  split <;> simp [cp_u, h]
theorem fo_tr1_o (I : cp_I) (ua ub : Nat → Nat) (s : Nat) {a : Nat} (h : a ≠ 56) (j : Nat) : ∀ (m k : Nat) (M : cp_I), fo (tr1 I ua ub s) m k M a j = M a j
  | 0, _, _ => rfl
  | m + 1, k, M => by rw [fo, fo_tr1_o I ua ub s h j m (k + 1), tr1_o I ua ub s k M h j]
/-- the first that isn't so -/
def sp_fst (p : Nat → Bool) : Nat → Nat → Option Nat
  | 0, _ => none
  | m + 1, k => if p k = true then some k else sp_fst p m (k + 1)
theorem lp_Mod_wrongFelt_83 {n um tm : Nat} {ua ub fs : Nat → Nat} {c : Int32} (hn6 : n ≤ 6) (hn : I 47 4 = nI n) (hU : rU I um tm ua ub fs) : ∀ (m k : Nat) (L : cp_Lo), k + m = tm → L 0 = some (.ref 44) → L 2 = some (.int c) → L 3 = some (.int (nI k)) →
    Q (some (.int (oI (sp_fst (fun k => decide (¬ sp_warm n (I 47 0) c (rt I 56) (fs k) = I 47 (76 + 2 * k))) m k)))) SH I J (PP t u r x) → RW g false (d + 3) 0 0 m_Mod_wrongFelt 0 0 83 L [] SH I J (PP t u r x) Q := by
  intro m
  obtain ⟨-, ⟨h8, htm⟩, -, hf⟩ := hU
  induction m with
  | zero =>
    intro k L hk h0 h2 h3 hq
    have c1 : nI tm ≤ nI k := nI_le (by omega) (by omega)
    refine cp_run 60 (fun t => t == 83) ck_Mod_wrongFelt ?_
    simp only [cp_vc, cp_vs, cp_jm, cp_ent_en, cp_en_int, cp_en_ref, cp_en_ret, cp_en_long, cp_en_nil, cp_s1_at, cp_s2_at, cp_nl_int, cp_nl_ref, cp_nl_long, cp_nl_none, cp_pop_0, cp_pop_s, reduceIte, if_true, if_false, Bool.false_eq_true, Bool.true_eq_false, false_implies, implies_true, forall_const, true_implies, true_and, and_true, and_self, true_or, or_true, false_or, or_false, Value.category, List.length_cons, List.length_nil, Option.toList_some, Option.toList_none, List.cons_append, List.nil_append, List.append_nil, Prod.mk.injEq, Nat.add_zero, Nat.zero_add, Nat.reduceAdd, Nat.reduceSub, Nat.reduceEqDiff, Nat.reduceLeDiff, Nat.reduceLT, Nat.le_refl, beq_self_eq_true, Nat.reduceBEq, ne_eq, not_true_eq_false, not_false_eq_true, Int32.reduceAdd, Int32.reduceSub, Int32.reduceMul, Int32.reduceLE, Int32.reduceLT, Int32.reduceToNatClampNeg, b01_0, b01_1, ne_2_0, ne_3_0, ne_4_0, ne_5_0, ne_6_0, ne_m1_0, ne_m2_0, b01_01, b01_n, lt_m2, lt_m1, le_m2, le_m1, Classical.not_not, j_Mod_wrongFelt_0, b_Mod_wrongFelt_0, j_Mod_wrongFelt_10, b_Mod_wrongFelt_10, j_Mod_wrongFelt_75, b_Mod_wrongFelt_75, j_Mod_wrongFelt_81, b_Mod_wrongFelt_81, j_Mod_wrongFelt_83, b_Mod_wrongFelt_83, j_Mod_wrongFelt_132, b_Mod_wrongFelt_132, j_Mod_wrongFelt_138, b_Mod_wrongFelt_138, an_0, an_1, an_2, an_3, an_7, an_8, cl_0, cl_1, cl_2, cl_3, cl_64, cl_7, cl_76, cl_8, ne_0_1, ne_0_2, ne_0_3, ne_0_7, ne_0_8, ne_0_m2, ne_1_0, ne_1_2, ne_1_3, ne_1_7, ne_1_8, ne_1_m2, ne_2_0, ne_2_1, ne_2_3, ne_2_7, ne_2_8, ne_2_m2, ne_3_0, ne_3_1, ne_3_2, ne_3_7, ne_3_8, ne_3_m2, ne_7_0, ne_7_1, ne_7_2, ne_7_3, ne_7_8, ne_7_m2, ne_8_0, ne_8_1, ne_8_2, ne_8_3, ne_8_7, ne_8_m2, ne_m2_0, ne_m2_1, ne_m2_2, ne_m2_3, ne_m2_7, ne_m2_8, pp_44_15, pp_44_28, sh_44, sh_47, sh_56, vi_0, vi_1, vi_2, vi_3, vi_64, vi_7, vi_76, vi_8, h0, h2, h3, h8, c1]
    exact hq
  | succ m ih =>
    intro k L hk h0 h2 h3 hq
    have c1 : ¬ nI tm ≤ nI k := nI_ge (by omega) (by omega)
    obtain ⟨f1, f2⟩ := hf k (by omega)
    rw [sp_fst] at hq
    have e1 : (76 : Int32) + 2 * nI k = nI (76 + 2 * k) := by rw [show (2 : Int32) = nI 2 from rfl, pk_mul, show (76 : Int32) = nI 76 from rfl, nI_add]
    have e2 : nI (76 + 2 * k) + 1 = nI (77 + 2 * k) := by rw [nI_1]; congr 1; omega
    refine cp_run 60 (fun t => t == 83) ck_Mod_wrongFelt ?_
    simp only [cp_vc, cp_vs, cp_jm, cp_ent_en, cp_en_int, cp_en_ref, cp_en_ret, cp_en_long, cp_en_nil, cp_s1_at, cp_s2_at, cp_nl_int, cp_nl_ref, cp_nl_long, cp_nl_none, cp_pop_0, cp_pop_s, reduceIte, if_true, if_false, Bool.false_eq_true, Bool.true_eq_false, false_implies, implies_true, forall_const, true_implies, true_and, and_true, and_self, true_or, or_true, false_or, or_false, Value.category, List.length_cons, List.length_nil, Option.toList_some, Option.toList_none, List.cons_append, List.nil_append, List.append_nil, Prod.mk.injEq, Nat.add_zero, Nat.zero_add, Nat.reduceAdd, Nat.reduceSub, Nat.reduceEqDiff, Nat.reduceLeDiff, Nat.reduceLT, Nat.le_refl, beq_self_eq_true, Nat.reduceBEq, ne_eq, not_true_eq_false, not_false_eq_true, Int32.reduceAdd, Int32.reduceSub, Int32.reduceMul, Int32.reduceLE, Int32.reduceLT, Int32.reduceToNatClampNeg, b01_0, b01_1, ne_2_0, ne_3_0, ne_4_0, ne_5_0, ne_6_0, ne_m1_0, ne_m2_0, b01_01, b01_n, lt_m2, lt_m1, le_m2, le_m1, Classical.not_not, j_Mod_wrongFelt_0, b_Mod_wrongFelt_0, j_Mod_wrongFelt_10, b_Mod_wrongFelt_10, j_Mod_wrongFelt_75, b_Mod_wrongFelt_75, j_Mod_wrongFelt_81, b_Mod_wrongFelt_81, j_Mod_wrongFelt_83, b_Mod_wrongFelt_83, j_Mod_wrongFelt_132, b_Mod_wrongFelt_132, j_Mod_wrongFelt_138, b_Mod_wrongFelt_138, an_0, an_1, an_2, an_3, an_7, an_8, cl_0, cl_1, cl_2, cl_3, cl_64, cl_7, cl_76, cl_8, ne_0_1, ne_0_2, ne_0_3, ne_0_7, ne_0_8, ne_0_m2, ne_1_0, ne_1_2, ne_1_3, ne_1_7, ne_1_8, ne_1_m2, ne_2_0, ne_2_1, ne_2_3, ne_2_7, ne_2_8, ne_2_m2, ne_3_0, ne_3_1, ne_3_2, ne_3_7, ne_3_8, ne_3_m2, ne_7_0, ne_7_1, ne_7_2, ne_7_3, ne_7_8, ne_7_m2, ne_8_0, ne_8_1, ne_8_2, ne_8_3, ne_8_7, ne_8_m2, ne_m2_0, ne_m2_1, ne_m2_2, ne_m2_3, ne_m2_7, ne_m2_8, pp_44_15, pp_44_28, sh_44, sh_47, sh_56, vi_0, vi_1, vi_2, vi_3, vi_64, vi_7, vi_76, vi_8, h0, h2, h3, h8, c1, e1, e2, vin (show 76 + 2 * k < 138 by omega) (by omega), ncl (show 76 + 2 * k < 1000 by omega), vin (show 77 + 2 * k < 138 by omega) (by omega), ncl (show 77 + 2 * k < 1000 by omega), f1]
    refine c_Mod_warmthBy sh_56 f2 hn6 hn ?_
    simp only [cp_kk, cp_vc, cp_vs, cp_jm, cp_ent_en, cp_en_int, cp_en_ref, cp_en_ret, cp_en_long, cp_en_nil, cp_s1_at, cp_s2_at, cp_nl_int, cp_nl_ref, cp_nl_long, cp_nl_none, cp_pop_0, cp_pop_s, reduceIte, if_true, if_false, Bool.false_eq_true, Bool.true_eq_false, false_implies, implies_true, forall_const, true_implies, true_and, and_true, and_self, true_or, or_true, false_or, or_false, Value.category, List.length_cons, List.length_nil, Option.toList_some, Option.toList_none, List.cons_append, List.nil_append, List.append_nil, Prod.mk.injEq, Nat.add_zero, Nat.zero_add, Nat.reduceAdd, Nat.reduceSub, Nat.reduceEqDiff, Nat.reduceLeDiff, Nat.reduceLT, Nat.le_refl, beq_self_eq_true, Nat.reduceBEq, ne_eq, not_true_eq_false, not_false_eq_true, Int32.reduceAdd, Int32.reduceSub, Int32.reduceMul, Int32.reduceLE, Int32.reduceLT, Int32.reduceToNatClampNeg, b01_0, b01_1, ne_2_0, ne_3_0, ne_4_0, ne_5_0, ne_6_0, ne_m1_0, ne_m2_0, b01_01, b01_n, lt_m2, lt_m1, le_m2, le_m1, Classical.not_not, Bool.or_false, Bool.false_or, Bool.true_or, Bool.or_true, j_Mod_wrongFelt_0, b_Mod_wrongFelt_0, j_Mod_wrongFelt_10, b_Mod_wrongFelt_10, j_Mod_wrongFelt_75, b_Mod_wrongFelt_75, j_Mod_wrongFelt_81, b_Mod_wrongFelt_81, j_Mod_wrongFelt_83, b_Mod_wrongFelt_83, j_Mod_wrongFelt_132, b_Mod_wrongFelt_132, j_Mod_wrongFelt_138, b_Mod_wrongFelt_138, an_0, an_1, an_2, an_3, an_7, an_8, cl_0, cl_1, cl_2, cl_3, cl_64, cl_7, cl_76, cl_8, ne_0_1, ne_0_2, ne_0_3, ne_0_7, ne_0_8, ne_0_m2, ne_1_0, ne_1_2, ne_1_3, ne_1_7, ne_1_8, ne_1_m2, ne_2_0, ne_2_1, ne_2_3, ne_2_7, ne_2_8, ne_2_m2, ne_3_0, ne_3_1, ne_3_2, ne_3_7, ne_3_8, ne_3_m2, ne_7_0, ne_7_1, ne_7_2, ne_7_3, ne_7_8, ne_7_m2, ne_8_0, ne_8_1, ne_8_2, ne_8_3, ne_8_7, ne_8_m2, ne_m2_0, ne_m2_1, ne_m2_2, ne_m2_3, ne_m2_7, ne_m2_8, pp_44_15, pp_44_28, sh_44, sh_47, sh_56, vi_0, vi_1, vi_2, vi_3, vi_64, vi_7, vi_76, vi_8, h0, h2, h3, e1, vin (show 76 + 2 * k < 138 by omega) (by omega), ncl (show 76 + 2 * k < 1000 by omega), nI_1]
    refine ⟨fun c2 => ?_, fun c2 => ?_⟩
    · rw [if_neg (by simp [c2])] at hq
      refine ih (k + 1) _ (by omega) ?_ ?_ ?_ hq <;> simp [cp_s1_at, cp_nl_int, cp_nl_ref, h0, h2]
    · rw [if_pos (by simp [c2])] at hq
      exact hq
end Mod13
