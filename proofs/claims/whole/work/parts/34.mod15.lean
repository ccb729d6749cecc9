section Mod15
variable {g : cp_G} {d : Nat} {sh : cp_H} {I : cp_I} {J : cp_J} {P : cp_P} {Q : cp_QT} {t u r x : Nat}
/-- how many are left at most, k being told -/
def lv (q : skT) (k : Nat) : Nat := if q.2.2.2.2 k ≤ q.1 - q.2.2.2.2 k then q.1 - q.2.2.2.2 k else q.2.2.2.2 k
theorem c_Mod_leavesOf {q : skT} {k : Nat} (hk : k < 4) (hq : q.1 ≤ 16) (ho : q.2.2.2.2 k ≤ q.1) (e1 : I 44 31 = nI q.1) (e2 : I 57 k = nI (q.2.2.2.2 k)) (h : Q (some (.int (nI (lv q k)))) SH I J (PP t u r x)) : MW g false (d + 1) 0 0 m_Mod_leavesOf [.ref 44, .int (nI k)] SH I J (PP t u r x) Q := by
  refine MW.of ok_Mod_leavesOf (Nat.le_of_ble_eq_true rfl) ?_
  have es : nI q.1 - nI (q.2.2.2.2 k) = nI (q.1 - q.2.2.2.2 k) := pk_sub ho
  have el := leN (show q.2.2.2.2 k < 1000 by omega) (show q.1 - q.2.2.2.2 k < 1000 by omega)
  refine cp_run 60 (fun _ => false) ck_Mod_leavesOf ?_
  simp only [cp_vc, cp_vs, cp_jm, cp_ent_en, cp_en_int, cp_en_ref, cp_en_ret, cp_en_long, cp_en_nil, cp_s1_at, cp_s2_at, cp_nl_int, cp_nl_ref, cp_nl_long, cp_nl_none, cp_pop_0, cp_pop_s, reduceIte, if_true, if_false, Bool.false_eq_true, Bool.true_eq_false, false_implies, implies_true, forall_const, true_implies, true_and, and_true, and_self, true_or, or_true, false_or, or_false, Value.category, List.length_cons, List.length_nil, Option.toList_some, Option.toList_none, List.cons_append, List.nil_append, List.append_nil, Prod.mk.injEq, Nat.add_zero, Nat.zero_add, Nat.reduceAdd, Nat.reduceSub, Nat.reduceEqDiff, Nat.reduceLeDiff, Nat.reduceLT, Nat.le_refl, beq_self_eq_true, Nat.reduceBEq, ne_eq, not_true_eq_false, not_false_eq_true, Int32.reduceAdd, Int32.reduceSub, Int32.reduceMul, Int32.reduceLE, Int32.reduceLT, Int32.reduceToNatClampNeg, b01_0, b01_1, ne_2_0, ne_3_0, ne_4_0, ne_5_0, ne_6_0, ne_m1_0, ne_m2_0, b01_01, b01_n, lt_m2, lt_m1, le_m2, le_m1, Classical.not_not, j_Mod_leavesOf_0, b_Mod_leavesOf_0, j_Mod_leavesOf_29, b_Mod_leavesOf_29, j_Mod_leavesOf_40, b_Mod_leavesOf_40, an_0, an_1, ne_0_1, ne_1_0, pp_44_30, sh_44, sh_57, e1, e2, vin hk (show 4 < 1000 by omega), ncl (show k < 1000 by omega), es, el]
  unfold lv at h
  refine ⟨fun c => ?_, fun c => ?_⟩
  · rw [if_pos c] at h
    exact h
  · rw [if_neg c] at h
    exact h
/-- ASK -/
def ak (q : skT) : Nat → Option Nat → Option Nat := sp_bst (fun _ => true) (fun k c => decide (lv q k < lv q c))
theorem lv_le {q : skT} {k : Nat} (hq : q.1 ≤ 16) (ho : q.2.2.2.2 k ≤ q.1) : lv q k ≤ 16 := by
  unfold lv
  split <;> omega
theorem lp_Mod_askOf {um : Nat} {q : skT} (hum : um ≤ 4) (h7 : I 47 7 = nI um) (hq : q.1 ≤ 16) (hq0 : 0 < q.1) (ho : ∀ k, k < 4 → q.2.2.2.2 k ≤ q.1) (e1 : I 44 31 = nI q.1) (e2 : ∀ k, k < 4 → I 57 k = nI (q.2.2.2.2 k)) : ∀ (m k : Nat) (o : Option Nat) (L : cp_Lo), k + m = um → (∀ c, o = some c → c < 4) → L 0 = some (.ref 44) → L 1 = some (.int (oI o)) → L 2 = some (.int (nI k)) →
    Q (some (.int (oI (fo (ak q) m k o)))) SH I J (PP t u r x) → RW g false (d + 2) 0 0 m_Mod_askOf 0 0 11 L [] SH I J (PP t u r x) Q := by
  intro m
  induction m with
  | zero =>
    intro k o L hk hoo h0 h1 h2 h
    have c : nI um ≤ nI k := nI_le (by omega) (by omega)
    refine cp_run 60 (fun t => t == 11) ck_Mod_askOf ?_
    simp only [cp_vc, cp_vs, cp_jm, cp_ent_en, cp_en_int, cp_en_ref, cp_en_ret, cp_en_long, cp_en_nil, cp_s1_at, cp_s2_at, cp_nl_int, cp_nl_ref, cp_nl_long, cp_nl_none, cp_pop_0, cp_pop_s, reduceIte, if_true, if_false, Bool.false_eq_true, Bool.true_eq_false, false_implies, implies_true, forall_const, true_implies, true_and, and_true, and_self, true_or, or_true, false_or, or_false, Value.category, List.length_cons, List.length_nil, Option.toList_some, Option.toList_none, List.cons_append, List.nil_append, List.append_nil, Prod.mk.injEq, Nat.add_zero, Nat.zero_add, Nat.reduceAdd, Nat.reduceSub, Nat.reduceEqDiff, Nat.reduceLeDiff, Nat.reduceLT, Nat.le_refl, beq_self_eq_true, Nat.reduceBEq, ne_eq, not_true_eq_false, not_false_eq_true, Int32.reduceAdd, Int32.reduceSub, Int32.reduceMul, Int32.reduceLE, Int32.reduceLT, Int32.reduceToNatClampNeg, b01_0, b01_1, ne_2_0, ne_3_0, ne_4_0, ne_5_0, ne_6_0, ne_m1_0, ne_m2_0, b01_01, b01_n, lt_m2, lt_m1, le_m2, le_m1, Classical.not_not, j_Mod_askOf_0, b_Mod_askOf_0, j_Mod_askOf_11, b_Mod_askOf_11, j_Mod_askOf_46, b_Mod_askOf_46, j_Mod_askOf_48, b_Mod_askOf_48, j_Mod_askOf_54, b_Mod_askOf_54, an_0, an_1, an_7, cl_0, cl_7, ne_0_1, ne_0_7, ne_0_m1, ne_0_m2, ne_1_0, ne_1_7, ne_1_m1, ne_1_m2, ne_7_0, ne_7_1, ne_7_m1, ne_7_m2, ne_m1_0, ne_m1_1, ne_m1_7, ne_m1_m2, ne_m2_0, ne_m2_1, ne_m2_7, ne_m2_m1, pp_44_15, sh_44, sh_47, vi_0, vi_7, h0, h1, h2, h7, c]
    exact h
  | succ m ih =>
    intro k o L hk hoo h0 h1 h2 h
    have c : ¬ nI um ≤ nI k := nI_ge (by omega) (by omega)
    have cq : ¬ nI q.1 ≤ 0 := nI_nle hq0 (by omega)
    have hk4 : k < 4 := by omega
    rw [fo] at h
    have no : ak q k o = o → RW g false (d + 2) 0 0 m_Mod_askOf 0 0 11 (cp_s1 L 2 (.int (nI (k + 1)))) [] SH I J (PP t u r x) Q := by
      intro e
      rw [e] at h
      refine ih (k + 1) o _ (by omega) hoo ?_ ?_ ?_ h <;> simp [cp_s1_at, cp_nl_int, cp_nl_ref, h0, h1]
    have yes : ak q k o = some k → RW g false (d + 2) 0 0 m_Mod_askOf 0 0 11 (cp_s1 (cp_s1 L 1 (.int (nI k))) 2 (.int (nI (k + 1)))) [] SH I J (PP t u r x) Q := by
      intro e
      rw [e] at h
      refine ih (k + 1) (some k) _ (by omega) (fun c q => by cases q; exact hk4) ?_ ?_ ?_ h <;> simp [cp_s1_at, cp_nl_int, cp_nl_ref, h0, h1, oI]
    cases o with
    | none =>
      simp only [oI] at h1
      refine cp_run 60 (fun t => t == 11) ck_Mod_askOf ?_
      simp only [cp_vc, cp_vs, cp_jm, cp_ent_en, cp_en_int, cp_en_ref, cp_en_ret, cp_en_long, cp_en_nil, cp_s1_at, cp_s2_at, cp_nl_int, cp_nl_ref, cp_nl_long, cp_nl_none, cp_pop_0, cp_pop_s, reduceIte, if_true, if_false, Bool.false_eq_true, Bool.true_eq_false, false_implies, implies_true, forall_const, true_implies, true_and, and_true, and_self, true_or, or_true, false_or, or_false, Value.category, List.length_cons, List.length_nil, Option.toList_some, Option.toList_none, List.cons_append, List.nil_append, List.append_nil, Prod.mk.injEq, Nat.add_zero, Nat.zero_add, Nat.reduceAdd, Nat.reduceSub, Nat.reduceEqDiff, Nat.reduceLeDiff, Nat.reduceLT, Nat.le_refl, beq_self_eq_true, Nat.reduceBEq, ne_eq, not_true_eq_false, not_false_eq_true, Int32.reduceAdd, Int32.reduceSub, Int32.reduceMul, Int32.reduceLE, Int32.reduceLT, Int32.reduceToNatClampNeg, b01_0, b01_1, ne_2_0, ne_3_0, ne_4_0, ne_5_0, ne_6_0, ne_m1_0, ne_m2_0, b01_01, b01_n, lt_m2, lt_m1, le_m2, le_m1, Classical.not_not, j_Mod_askOf_0, b_Mod_askOf_0, j_Mod_askOf_11, b_Mod_askOf_11, j_Mod_askOf_46, b_Mod_askOf_46, j_Mod_askOf_48, b_Mod_askOf_48, j_Mod_askOf_54, b_Mod_askOf_54, an_0, an_1, an_7, cl_0, cl_7, ne_0_1, ne_0_7, ne_0_m1, ne_0_m2, ne_1_0, ne_1_7, ne_1_m1, ne_1_m2, ne_7_0, ne_7_1, ne_7_m1, ne_7_m2, ne_m1_0, ne_m1_1, ne_m1_7, ne_m1_m2, ne_m2_0, ne_m2_1, ne_m2_7, ne_m2_m1, pp_44_15, sh_44, sh_47, vi_0, vi_7, h0, h1, h2, h7, c, e1, cq, nI_1]
      exact yes (by simp [ak, sp_bst])
    | some c0 =>
      have hc0 := hoo c0 rfl
      simp only [oI] at h1
      refine cp_run 60 (fun t => t == 11) ck_Mod_askOf ?_
      simp only [cp_vc, cp_vs, cp_jm, cp_ent_en, cp_en_int, cp_en_ref, cp_en_ret, cp_en_long, cp_en_nil, cp_s1_at, cp_s2_at, cp_nl_int, cp_nl_ref, cp_nl_long, cp_nl_none, cp_pop_0, cp_pop_s, reduceIte, if_true, if_false, Bool.false_eq_true, Bool.true_eq_false, false_implies, implies_true, forall_const, true_implies, true_and, and_true, and_self, true_or, or_true, false_or, or_false, Value.category, List.length_cons, List.length_nil, Option.toList_some, Option.toList_none, List.cons_append, List.nil_append, List.append_nil, Prod.mk.injEq, Nat.add_zero, Nat.zero_add, Nat.reduceAdd, Nat.reduceSub, Nat.reduceEqDiff, Nat.reduceLeDiff, Nat.reduceLT, Nat.le_refl, beq_self_eq_true, Nat.reduceBEq, ne_eq, not_true_eq_false, not_false_eq_true, Int32.reduceAdd, Int32.reduceSub, Int32.reduceMul, Int32.reduceLE, Int32.reduceLT, Int32.reduceToNatClampNeg, b01_0, b01_1, ne_2_0, ne_3_0, ne_4_0, ne_5_0, ne_6_0, ne_m1_0, ne_m2_0, b01_01, b01_n, lt_m2, lt_m1, le_m2, le_m1, Classical.not_not, j_Mod_askOf_0, b_Mod_askOf_0, j_Mod_askOf_11, b_Mod_askOf_11, j_Mod_askOf_46, b_Mod_askOf_46, j_Mod_askOf_48, b_Mod_askOf_48, j_Mod_askOf_54, b_Mod_askOf_54, an_0, an_1, an_7, cl_0, cl_7, ne_0_1, ne_0_7, ne_0_m1, ne_0_m2, ne_1_0, ne_1_7, ne_1_m1, ne_1_m2, ne_7_0, ne_7_1, ne_7_m1, ne_7_m2, ne_m1_0, ne_m1_1, ne_m1_7, ne_m1_m2, ne_m2_0, ne_m2_1, ne_m2_7, ne_m2_m1, pp_44_15, sh_44, sh_47, vi_0, vi_7, h0, h1, h2, h7, c, e1, cq, nI_1, lt_nI (show c0 < 1000 by omega)]
      refine c_Mod_leavesOf hk4 hq (ho k hk4) e1 (e2 k hk4) ?_
      simp only [cp_kk, cp_vc, cp_vs, cp_jm, cp_ent_en, cp_en_int, cp_en_ref, cp_en_ret, cp_en_long, cp_en_nil, cp_s1_at, cp_s2_at, cp_nl_int, cp_nl_ref, cp_nl_long, cp_nl_none, cp_pop_0, cp_pop_s, reduceIte, if_true, if_false, Bool.false_eq_true, Bool.true_eq_false, false_implies, implies_true, forall_const, true_implies, true_and, and_true, and_self, true_or, or_true, false_or, or_false, Value.category, List.length_cons, List.length_nil, Option.toList_some, Option.toList_none, List.cons_append, List.nil_append, List.append_nil, Prod.mk.injEq, Nat.add_zero, Nat.zero_add, Nat.reduceAdd, Nat.reduceSub, Nat.reduceEqDiff, Nat.reduceLeDiff, Nat.reduceLT, Nat.le_refl, beq_self_eq_true, Nat.reduceBEq, ne_eq, not_true_eq_false, not_false_eq_true, Int32.reduceAdd, Int32.reduceSub, Int32.reduceMul, Int32.reduceLE, Int32.reduceLT, Int32.reduceToNatClampNeg, b01_0, b01_1, ne_2_0, ne_3_0, ne_4_0, ne_5_0, ne_6_0, ne_m1_0, ne_m2_0, b01_01, b01_n, lt_m2, lt_m1, le_m2, le_m1, Classical.not_not, Bool.or_false, Bool.false_or, Bool.true_or, Bool.or_true, j_Mod_askOf_0, b_Mod_askOf_0, j_Mod_askOf_11, b_Mod_askOf_11, j_Mod_askOf_46, b_Mod_askOf_46, j_Mod_askOf_48, b_Mod_askOf_48, j_Mod_askOf_54, b_Mod_askOf_54, an_0, an_1, an_7, cl_0, cl_7, ne_0_1, ne_0_7, ne_0_m1, ne_0_m2, ne_1_0, ne_1_7, ne_1_m1, ne_1_m2, ne_7_0, ne_7_1, ne_7_m1, ne_7_m2, ne_m1_0, ne_m1_1, ne_m1_7, ne_m1_m2, ne_m2_0, ne_m2_1, ne_m2_7, ne_m2_m1, pp_44_15, sh_44, sh_47, vi_0, vi_7, h0, h1, h2]
      refine c_Mod_leavesOf hc0 hq (ho c0 hc0) e1 (e2 c0 hc0) ?_
      have l1 := lv_le hq (ho k hk4)
      have l2 := lv_le hq (ho c0 hc0)
      simp only [cp_kk, cp_vc, cp_vs, cp_jm, cp_ent_en, cp_en_int, cp_en_ref, cp_en_ret, cp_en_long, cp_en_nil, cp_s1_at, cp_s2_at, cp_nl_int, cp_nl_ref, cp_nl_long, cp_nl_none, cp_pop_0, cp_pop_s, reduceIte, if_true, if_false, Bool.false_eq_true, Bool.true_eq_false, false_implies, implies_true, forall_const, true_implies, true_and, and_true, and_self, true_or, or_true, false_or, or_false, Value.category, List.length_cons, List.length_nil, Option.toList_some, Option.toList_none, List.cons_append, List.nil_append, List.append_nil, Prod.mk.injEq, Nat.add_zero, Nat.zero_add, Nat.reduceAdd, Nat.reduceSub, Nat.reduceEqDiff, Nat.reduceLeDiff, Nat.reduceLT, Nat.le_refl, beq_self_eq_true, Nat.reduceBEq, ne_eq, not_true_eq_false, not_false_eq_true, Int32.reduceAdd, Int32.reduceSub, Int32.reduceMul, Int32.reduceLE, Int32.reduceLT, Int32.reduceToNatClampNeg, b01_0, b01_1, ne_2_0, ne_3_0, ne_4_0, ne_5_0, ne_6_0, ne_m1_0, ne_m2_0, b01_01, b01_n, lt_m2, lt_m1, le_m2, le_m1, Classical.not_not, Bool.or_false, Bool.false_or, Bool.true_or, Bool.or_true, j_Mod_askOf_0, b_Mod_askOf_0, j_Mod_askOf_11, b_Mod_askOf_11, j_Mod_askOf_46, b_Mod_askOf_46, j_Mod_askOf_48, b_Mod_askOf_48, j_Mod_askOf_54, b_Mod_askOf_54, an_0, an_1, an_7, cl_0, cl_7, ne_0_1, ne_0_7, ne_0_m1, ne_0_m2, ne_1_0, ne_1_7, ne_1_m1, ne_1_m2, ne_7_0, ne_7_1, ne_7_m1, ne_7_m2, ne_m1_0, ne_m1_1, ne_m1_7, ne_m1_m2, ne_m2_0, ne_m2_1, ne_m2_7, ne_m2_m1, pp_44_15, sh_44, sh_47, vi_0, vi_7, h0, h1, h2, nI_1, leN (show lv q c0 < 1000 by omega) (show lv q k < 1000 by omega)]
      refine ⟨fun b3 => no ?_, fun b3 => yes ?_⟩
      · have : ¬ lv q k < lv q c0 := by omega
        simp [ak, sp_bst, this]
      · have : lv q k < lv q c0 := by omega
        simp [ak, sp_bst, this]
/-! bounds of what seekSets keeps -/
theorem sk1_b {F : Nat → Bool} {w : Int32} : ∀ (m k : Nat) (q : skT), q.1 ≤ k → (∀ j, q.2.2.2.2 j ≤ q.1) → (fo (sk1 F w) m k q).1 ≤ k + m ∧ ∀ j, (fo (sk1 F w) m k q).2.2.2.2 j ≤ (fo (sk1 F w) m k q).1
  | 0, k, q, h1, h2 => ⟨h1, h2⟩
  | m + 1, k, q, h1, h2 => by
    rw [fo]
    have g1 : (sk1 F w k q).1 ≤ k + 1 := by
      unfold sk1
      split
      · show q.1 + 1 ≤ k + 1
        omega
      · omega
    have g2 : ∀ j, (sk1 F w k q).2.2.2.2 j ≤ (sk1 F w k q).1 := by
      intro j
      unfold sk1
      split
      · have := h2 j
        show q.2.2.2.2 j + (if k.testBit j = true then 1 else 0) ≤ q.1 + 1
        split <;> omega
      · exact h2 j
    have g3 := sk1_b (F := F) (w := w) m (k + 1) (sk1 F w k q) g1 g2
    refine And.intro ?_ g3.2
    have := g3.1
    omega
theorem sk_b (I : cp_I) {n um tm : Nat} {ua ub fs : Nat → Nat} {w : Int32} (hum : um ≤ 4) : (sk I n um tm ua ub fs w).1 ≤ 16 ∧ ∀ j, (sk I n um tm ua ub fs w).2.2.2.2 j ≤ (sk I n um tm ua ub fs w).1 := by
  have h16 : 2 ^ um ≤ 16 := Nat.le_trans (Nat.pow_le_pow_right (n := 2) (by omega) hum) (by decide)
  have := sk1_b (F := rft I n um tm ua ub fs) (w := w) (2 ^ um) 0 (0, -1, 0, 2 ^ um - 1, fun _ => 0) (Nat.le_refl _) (fun _ => Nat.le_refl _)
  exact ⟨by unfold sk; omega, this.2⟩
def skA (I : cp_I) (n um tm : Nat) (ua ub fs : Nat → Nat) : Option Nat := if (sk I n um tm ua ub fs (-1)).1 = 0 then none else fo (ak (sk I n um tm ua ub fs (-1))) um 0 none
theorem c_Mod_askOf {n um tm : Nat} {ua ub fs : Nat → Nat} (hn6 : n ≤ 6) (hn : I 47 4 = nI n) (hU : rU I um tm ua ub fs) (h : ∀ M, skF I M (skE (sk I n um tm ua ub fs (-1))) → Q (some (.int (oI (skA I n um tm ua ub fs)))) SH M J (PP t u r x)) : MW g false (d + 5) 0 0 m_Mod_askOf [.ref 44] SH I J (PP t u r x) Q := by
  refine MW.of ok_Mod_askOf (Nat.le_of_ble_eq_true rfl) ?_
  obtain ⟨⟨h7, hum⟩, -, -, -⟩ := id hU
  refine cp_run 30 (fun t => t == 11) ck_Mod_askOf ?_
  simp only [cp_vc, cp_vs, cp_jm, cp_ent_en, cp_en_int, cp_en_ref, cp_en_ret, cp_en_long, cp_en_nil, cp_s1_at, cp_s2_at, cp_nl_int, cp_nl_ref, cp_nl_long, cp_nl_none, cp_pop_0, cp_pop_s, reduceIte, if_true, if_false, Bool.false_eq_true, Bool.true_eq_false, false_implies, implies_true, forall_const, true_implies, true_and, and_true, and_self, true_or, or_true, false_or, or_false, Value.category, List.length_cons, List.length_nil, Option.toList_some, Option.toList_none, List.cons_append, List.nil_append, List.append_nil, Prod.mk.injEq, Nat.add_zero, Nat.zero_add, Nat.reduceAdd, Nat.reduceSub, Nat.reduceEqDiff, Nat.reduceLeDiff, Nat.reduceLT, Nat.le_refl, beq_self_eq_true, Nat.reduceBEq, ne_eq, not_true_eq_false, not_false_eq_true, Int32.reduceAdd, Int32.reduceSub, Int32.reduceMul, Int32.reduceLE, Int32.reduceLT, Int32.reduceToNatClampNeg, b01_0, b01_1, ne_2_0, ne_3_0, ne_4_0, ne_5_0, ne_6_0, ne_m1_0, ne_m2_0, b01_01, b01_n, lt_m2, lt_m1, le_m2, le_m1, Classical.not_not, j_Mod_askOf_0, b_Mod_askOf_0, j_Mod_askOf_11, b_Mod_askOf_11, j_Mod_askOf_46, b_Mod_askOf_46, j_Mod_askOf_48, b_Mod_askOf_48, j_Mod_askOf_54, b_Mod_askOf_54, an_0, an_1, an_7, cl_0, cl_7, ne_0_1, ne_0_7, ne_0_m1, ne_0_m2, ne_1_0, ne_1_7, ne_1_m1, ne_1_m2, ne_7_0, ne_7_1, ne_7_m1, ne_7_m2, ne_m1_0, ne_m1_1, ne_m1_7, ne_m1_m2, ne_m2_0, ne_m2_1, ne_m2_7, ne_m2_m1, pp_44_15, sh_44, sh_47, vi_0, vi_7]
  refine c_Mod_seekSets hn6 hn hU (fun M hM => ?_)
  obtain ⟨b1, b2⟩ := sk_b I (n := n) (um := um) (tm := tm) (ua := ua) (ub := ub) (fs := fs) (w := -1) hum
  have hq := h M hM
  obtain ⟨f0, f1, f2, f3, f4⟩ := hM
  simp only [cp_kk, cp_vc, cp_vs, cp_jm, cp_ent_en, cp_en_int, cp_en_ref, cp_en_ret, cp_en_long, cp_en_nil, cp_s1_at, cp_s2_at, cp_nl_int, cp_nl_ref, cp_nl_long, cp_nl_none, cp_pop_0, cp_pop_s, reduceIte, if_true, if_false, Bool.false_eq_true, Bool.true_eq_false, false_implies, implies_true, forall_const, true_implies, true_and, and_true, and_self, true_or, or_true, false_or, or_false, Value.category, List.length_cons, List.length_nil, Option.toList_some, Option.toList_none, List.cons_append, List.nil_append, List.append_nil, Prod.mk.injEq, Nat.add_zero, Nat.zero_add, Nat.reduceAdd, Nat.reduceSub, Nat.reduceEqDiff, Nat.reduceLeDiff, Nat.reduceLT, Nat.le_refl, beq_self_eq_true, Nat.reduceBEq, ne_eq, not_true_eq_false, not_false_eq_true, Int32.reduceAdd, Int32.reduceSub, Int32.reduceMul, Int32.reduceLE, Int32.reduceLT, Int32.reduceToNatClampNeg, b01_0, b01_1, ne_2_0, ne_3_0, ne_4_0, ne_5_0, ne_6_0, ne_m1_0, ne_m2_0, b01_01, b01_n, lt_m2, lt_m1, le_m2, le_m1, Classical.not_not, Bool.or_false, Bool.false_or, Bool.true_or, Bool.or_true, j_Mod_askOf_0, b_Mod_askOf_0, j_Mod_askOf_11, b_Mod_askOf_11, j_Mod_askOf_46, b_Mod_askOf_46, j_Mod_askOf_48, b_Mod_askOf_48, j_Mod_askOf_54, b_Mod_askOf_54, an_0, an_1, an_7, cl_0, cl_7, ne_0_1, ne_0_7, ne_0_m1, ne_0_m2, ne_1_0, ne_1_7, ne_1_m1, ne_1_m2, ne_7_0, ne_7_1, ne_7_m1, ne_7_m2, ne_m1_0, ne_m1_1, ne_m1_7, ne_m1_m2, ne_m2_0, ne_m2_1, ne_m2_7, ne_m2_m1, pp_44_15, sh_44, sh_47, vi_0, vi_7]
  unfold skA at hq
  have h7M := f0 47 7 (by omega) (by omega) (by omega)
  rw [h7] at h7M
  by_cases z : (sk I n um tm ua ub fs (-1)).1 = 0
  · rw [if_pos z] at hq
    have f1' : M 44 31 = nI 0 := by rw [f1]; show nI (sk I n um tm ua ub fs (-1)).1 = nI 0; rw [z]
    rw [nI_0] at f1'
    have hle : (0 : Int32) ≤ 0 := by decide
    by_cases z2 : um = 0
    · subst z2
      refine cp_run 60 (fun _ => false) ck_Mod_askOf ?_
      simp only [cp_vc, cp_vs, cp_jm, cp_ent_en, cp_en_int, cp_en_ref, cp_en_ret, cp_en_long, cp_en_nil, cp_s1_at, cp_s2_at, cp_nl_int, cp_nl_ref, cp_nl_long, cp_nl_none, cp_pop_0, cp_pop_s, reduceIte, if_true, if_false, Bool.false_eq_true, Bool.true_eq_false, false_implies, implies_true, forall_const, true_implies, true_and, and_true, and_self, true_or, or_true, false_or, or_false, Value.category, List.length_cons, List.length_nil, Option.toList_some, Option.toList_none, List.cons_append, List.nil_append, List.append_nil, Prod.mk.injEq, Nat.add_zero, Nat.zero_add, Nat.reduceAdd, Nat.reduceSub, Nat.reduceEqDiff, Nat.reduceLeDiff, Nat.reduceLT, Nat.le_refl, beq_self_eq_true, Nat.reduceBEq, ne_eq, not_true_eq_false, not_false_eq_true, Int32.reduceAdd, Int32.reduceSub, Int32.reduceMul, Int32.reduceLE, Int32.reduceLT, Int32.reduceToNatClampNeg, b01_0, b01_1, ne_2_0, ne_3_0, ne_4_0, ne_5_0, ne_6_0, ne_m1_0, ne_m2_0, b01_01, b01_n, lt_m2, lt_m1, le_m2, le_m1, Classical.not_not, j_Mod_askOf_0, b_Mod_askOf_0, j_Mod_askOf_11, b_Mod_askOf_11, j_Mod_askOf_46, b_Mod_askOf_46, j_Mod_askOf_48, b_Mod_askOf_48, j_Mod_askOf_54, b_Mod_askOf_54, an_0, an_1, an_7, cl_0, cl_7, ne_0_1, ne_0_7, ne_0_m1, ne_0_m2, ne_1_0, ne_1_7, ne_1_m1, ne_1_m2, ne_7_0, ne_7_1, ne_7_m1, ne_7_m2, ne_m1_0, ne_m1_1, ne_m1_7, ne_m1_m2, ne_m2_0, ne_m2_1, ne_m2_7, ne_m2_m1, pp_44_15, sh_44, sh_47, vi_0, vi_7, h7M, cp_s1_at, nI_0]
      exact hq
    · have c : ¬ nI um ≤ 0 := nI_nle (by omega) (by omega)
      refine cp_run 60 (fun _ => false) ck_Mod_askOf ?_
      simp only [cp_vc, cp_vs, cp_jm, cp_ent_en, cp_en_int, cp_en_ref, cp_en_ret, cp_en_long, cp_en_nil, cp_s1_at, cp_s2_at, cp_nl_int, cp_nl_ref, cp_nl_long, cp_nl_none, cp_pop_0, cp_pop_s, reduceIte, if_true, if_false, Bool.false_eq_true, Bool.true_eq_false, false_implies, implies_true, forall_const, true_implies, true_and, and_true, and_self, true_or, or_true, false_or, or_false, Value.category, List.length_cons, List.length_nil, Option.toList_some, Option.toList_none, List.cons_append, List.nil_append, List.append_nil, Prod.mk.injEq, Nat.add_zero, Nat.zero_add, Nat.reduceAdd, Nat.reduceSub, Nat.reduceEqDiff, Nat.reduceLeDiff, Nat.reduceLT, Nat.le_refl, beq_self_eq_true, Nat.reduceBEq, ne_eq, not_true_eq_false, not_false_eq_true, Int32.reduceAdd, Int32.reduceSub, Int32.reduceMul, Int32.reduceLE, Int32.reduceLT, Int32.reduceToNatClampNeg, b01_0, b01_1, ne_2_0, ne_3_0, ne_4_0, ne_5_0, ne_6_0, ne_m1_0, ne_m2_0, b01_01, b01_n, lt_m2, lt_m1, le_m2, le_m1, Classical.not_not, j_Mod_askOf_0, b_Mod_askOf_0, j_Mod_askOf_11, b_Mod_askOf_11, j_Mod_askOf_46, b_Mod_askOf_46, j_Mod_askOf_48, b_Mod_askOf_48, j_Mod_askOf_54, b_Mod_askOf_54, an_0, an_1, an_7, cl_0, cl_7, ne_0_1, ne_0_7, ne_0_m1, ne_0_m2, ne_1_0, ne_1_7, ne_1_m1, ne_1_m2, ne_7_0, ne_7_1, ne_7_m1, ne_7_m2, ne_m1_0, ne_m1_1, ne_m1_7, ne_m1_m2, ne_m2_0, ne_m2_1, ne_m2_7, ne_m2_m1, pp_44_15, sh_44, sh_47, vi_0, vi_7, h7M, c, f1', hle, cp_s1_at]
      exact hq
  · rw [if_neg z] at hq
    refine lp_Mod_askOf (q := sk I n um tm ua ub fs (-1)) hum h7M b1 (by omega) (fun k _ => b2 k) f1 f4 um 0 none _ (by omega) (fun c q => by cases q) ?_ ?_ ?_ hq <;> simp [cp_s1_at, cp_ent_en, cp_en_int, cp_en_ref, cp_nl_int, cp_nl_ref, nI_0, oI]
theorem skA_gd (I : cp_I) {n : Nat} (hn6 : n ≤ 6) (um tm : Nat) (ua ub fs : Nat → Nat) : skA (gd I) n um tm ua ub fs = skA I n um tm ua ub fs := by
  unfold skA
  rw [sk_gd I hn6]
theorem c_Mod_ask {n um tm : Nat} {ua ub fs : Nat → Nat} (hn6 : n ≤ 6) (hn : I 47 4 = nI n) (hU : rU I um tm ua ub fs) (h1 : ¬ I 44 14 = 0 → ∀ M, skF (gd I) M (skE (sk I n um tm ua ub fs (-1))) → Q (some (.int (oI (skA I n um tm ua ub fs)))) SH M J (PP t u r x)) (h0 : I 44 14 = 0 → Q (some (.int (-1))) SH (cp_u (gd I) 44 11 1) J (PP t u r x)) : MW g false (d + 6) 0 0 m_Mod_ask [.ref 44] SH I J (PP t u r x) Q := by
  refine MW.of ok_Mod_ask (Nat.le_of_ble_eq_true rfl) ?_
  refine cp_run 30 (fun _ => false) ck_Mod_ask ?_
  simp only [cp_vc, cp_vs, cp_jm, cp_ent_en, cp_en_int, cp_en_ref, cp_en_ret, cp_en_long, cp_en_nil, cp_s1_at, cp_s2_at, cp_nl_int, cp_nl_ref, cp_nl_long, cp_nl_none, cp_pop_0, cp_pop_s, reduceIte, if_true, if_false, Bool.false_eq_true, Bool.true_eq_false, false_implies, implies_true, forall_const, true_implies, true_and, and_true, and_self, true_or, or_true, false_or, or_false, Value.category, List.length_cons, List.length_nil, Option.toList_some, Option.toList_none, List.cons_append, List.nil_append, List.append_nil, Prod.mk.injEq, Nat.add_zero, Nat.zero_add, Nat.reduceAdd, Nat.reduceSub, Nat.reduceEqDiff, Nat.reduceLeDiff, Nat.reduceLT, Nat.le_refl, beq_self_eq_true, Nat.reduceBEq, ne_eq, not_true_eq_false, not_false_eq_true, Int32.reduceAdd, Int32.reduceSub, Int32.reduceMul, Int32.reduceLE, Int32.reduceLT, Int32.reduceToNatClampNeg, b01_0, b01_1, ne_2_0, ne_3_0, ne_4_0, ne_5_0, ne_6_0, ne_m1_0, ne_m2_0, b01_01, b01_n, lt_m2, lt_m1, le_m2, le_m1, Classical.not_not, j_Mod_ask_0, b_Mod_ask_0, j_Mod_ask_18, b_Mod_ask_18, j_Mod_ask_23, b_Mod_ask_23, an_0, an_1, cl_1, ne_0_1, ne_1_0, sh_44, vi_1]
  refine c_Mod_gd ?_
  simp only [cp_kk, cp_vc, cp_vs, cp_jm, cp_ent_en, cp_en_int, cp_en_ref, cp_en_ret, cp_en_long, cp_en_nil, cp_s1_at, cp_s2_at, cp_nl_int, cp_nl_ref, cp_nl_long, cp_nl_none, cp_pop_0, cp_pop_s, reduceIte, if_true, if_false, Bool.false_eq_true, Bool.true_eq_false, false_implies, implies_true, forall_const, true_implies, true_and, and_true, and_self, true_or, or_true, false_or, or_false, Value.category, List.length_cons, List.length_nil, Option.toList_some, Option.toList_none, List.cons_append, List.nil_append, List.append_nil, Prod.mk.injEq, Nat.add_zero, Nat.zero_add, Nat.reduceAdd, Nat.reduceSub, Nat.reduceEqDiff, Nat.reduceLeDiff, Nat.reduceLT, Nat.le_refl, beq_self_eq_true, Nat.reduceBEq, ne_eq, not_true_eq_false, not_false_eq_true, Int32.reduceAdd, Int32.reduceSub, Int32.reduceMul, Int32.reduceLE, Int32.reduceLT, Int32.reduceToNatClampNeg, b01_0, b01_1, ne_2_0, ne_3_0, ne_4_0, ne_5_0, ne_6_0, ne_m1_0, ne_m2_0, b01_01, b01_n, lt_m2, lt_m1, le_m2, le_m1, Classical.not_not, Bool.or_false, Bool.false_or, Bool.true_or, Bool.or_true, j_Mod_ask_0, b_Mod_ask_0, j_Mod_ask_18, b_Mod_ask_18, j_Mod_ask_23, b_Mod_ask_23, an_0, an_1, cl_1, ne_0_1, ne_1_0, sh_44, vi_1, gd_14]
  refine ⟨fun c => ?_, fun c => ?_⟩
  · refine c_Mod_no ?_
    simp only [cp_kk, cp_vc, cp_vs, cp_jm, cp_ent_en, cp_en_int, cp_en_ref, cp_en_ret, cp_en_long, cp_en_nil, cp_s1_at, cp_s2_at, cp_nl_int, cp_nl_ref, cp_nl_long, cp_nl_none, cp_pop_0, cp_pop_s, reduceIte, if_true, if_false, Bool.false_eq_true, Bool.true_eq_false, false_implies, implies_true, forall_const, true_implies, true_and, and_true, and_self, true_or, or_true, false_or, or_false, Value.category, List.length_cons, List.length_nil, Option.toList_some, Option.toList_none, List.cons_append, List.nil_append, List.append_nil, Prod.mk.injEq, Nat.add_zero, Nat.zero_add, Nat.reduceAdd, Nat.reduceSub, Nat.reduceEqDiff, Nat.reduceLeDiff, Nat.reduceLT, Nat.le_refl, beq_self_eq_true, Nat.reduceBEq, ne_eq, not_true_eq_false, not_false_eq_true, Int32.reduceAdd, Int32.reduceSub, Int32.reduceMul, Int32.reduceLE, Int32.reduceLT, Int32.reduceToNatClampNeg, b01_0, b01_1, ne_2_0, ne_3_0, ne_4_0, ne_5_0, ne_6_0, ne_m1_0, ne_m2_0, b01_01, b01_n, lt_m2, lt_m1, le_m2, le_m1, Classical.not_not, Bool.or_false, Bool.false_or, Bool.true_or, Bool.or_true, j_Mod_ask_0, b_Mod_ask_0, j_Mod_ask_18, b_Mod_ask_18, j_Mod_ask_23, b_Mod_ask_23, an_0, an_1, cl_1, ne_0_1, ne_1_0, sh_44, vi_1]
    exact h0 c
  · refine c_Mod_askOf hn6 (by rw [gd47]; exact hn) (rU_gd hU) (fun M hM => ?_)
    rw [sk_gd I hn6] at hM
    rw [skA_gd I hn6]
    simp only [cp_kk, cp_vc, cp_vs, cp_jm, cp_ent_en, cp_en_int, cp_en_ref, cp_en_ret, cp_en_long, cp_en_nil, cp_s1_at, cp_s2_at, cp_nl_int, cp_nl_ref, cp_nl_long, cp_nl_none, cp_pop_0, cp_pop_s, reduceIte, if_true, if_false, Bool.false_eq_true, Bool.true_eq_false, false_implies, implies_true, forall_const, true_implies, true_and, and_true, and_self, true_or, or_true, false_or, or_false, Value.category, List.length_cons, List.length_nil, Option.toList_some, Option.toList_none, List.cons_append, List.nil_append, List.append_nil, Prod.mk.injEq, Nat.add_zero, Nat.zero_add, Nat.reduceAdd, Nat.reduceSub, Nat.reduceEqDiff, Nat.reduceLeDiff, Nat.reduceLT, Nat.le_refl, beq_self_eq_true, Nat.reduceBEq, ne_eq, not_true_eq_false, not_false_eq_true, Int32.reduceAdd, Int32.reduceSub, Int32.reduceMul, Int32.reduceLE, Int32.reduceLT, Int32.reduceToNatClampNeg, b01_0, b01_1, ne_2_0, ne_3_0, ne_4_0, ne_5_0, ne_6_0, ne_m1_0, ne_m2_0, b01_01, b01_n, lt_m2, lt_m1, le_m2, le_m1, Classical.not_not, Bool.or_false, Bool.false_or, Bool.true_or, Bool.or_true, j_Mod_ask_0, b_Mod_ask_0, j_Mod_ask_18, b_Mod_ask_18, j_Mod_ask_23, b_Mod_ask_23, an_0, an_1, cl_1, ne_0_1, ne_1_0, sh_44, vi_1]
    exact h1 c M hM
theorem ak_lt {q : skT} : ∀ (m k : Nat) (o : Option Nat) (b : Nat), (∀ c, o = some c → c < b) → k + m ≤ b → ∀ c, fo (ak q) m k o = some c → c < b
  | 0, _, _, _, h, _ => h
  | m + 1, k, o, b, h, hk => by
    rw [fo]
    refine ak_lt m (k + 1) _ b (fun c hc => ?_) (by omega)
    cases o with
    | none =>
      simp [ak, sp_bst] at hc
      omega
    | some c0 =>
      simp only [ak, sp_bst] at hc
      split at hc
      · cases hc
        omega
      · cases hc
        exact h c rfl
theorem c_Mod_askLeaves {n um tm : Nat} {ua ub fs : Nat → Nat} (hn6 : n ≤ 6) (hn : I 47 4 = nI n) (hU : rU I um tm ua ub fs)
    (h1 : ¬ I 44 14 = 0 → ∀ M k, skF (gd I) M (skE (sk I n um tm ua ub fs (-1))) → skA I n um tm ua ub fs = some k → Q (some (.int (nI (lv (sk I n um tm ua ub fs (-1)) k)))) SH M J (PP t u r x))
    (h2 : ¬ I 44 14 = 0 → ∀ M, skF (gd I) M (skE (sk I n um tm ua ub fs (-1))) → skA I n um tm ua ub fs = none → Q (some (.int (-2))) SH M J (PP t u r x))
    (h0 : I 44 14 = 0 → Q (some (.int (-1))) SH (cp_u (gd I) 44 11 1) J (PP t u r x)) : MW g false (d + 6) 0 0 m_Mod_askLeaves [.ref 44] SH I J (PP t u r x) Q := by
  refine MW.of ok_Mod_askLeaves (Nat.le_of_ble_eq_true rfl) ?_
  obtain ⟨⟨h7, hum⟩, -, -, -⟩ := id hU
  refine cp_run 30 (fun _ => false) ck_Mod_askLeaves ?_
  simp only [cp_vc, cp_vs, cp_jm, cp_ent_en, cp_en_int, cp_en_ref, cp_en_ret, cp_en_long, cp_en_nil, cp_s1_at, cp_s2_at, cp_nl_int, cp_nl_ref, cp_nl_long, cp_nl_none, cp_pop_0, cp_pop_s, reduceIte, if_true, if_false, Bool.false_eq_true, Bool.true_eq_false, false_implies, implies_true, forall_const, true_implies, true_and, and_true, and_self, true_or, or_true, false_or, or_false, Value.category, List.length_cons, List.length_nil, Option.toList_some, Option.toList_none, List.cons_append, List.nil_append, List.append_nil, Prod.mk.injEq, Nat.add_zero, Nat.zero_add, Nat.reduceAdd, Nat.reduceSub, Nat.reduceEqDiff, Nat.reduceLeDiff, Nat.reduceLT, Nat.le_refl, beq_self_eq_true, Nat.reduceBEq, ne_eq, not_true_eq_false, not_false_eq_true, Int32.reduceAdd, Int32.reduceSub, Int32.reduceMul, Int32.reduceLE, Int32.reduceLT, Int32.reduceToNatClampNeg, b01_0, b01_1, ne_2_0, ne_3_0, ne_4_0, ne_5_0, ne_6_0, ne_m1_0, ne_m2_0, b01_01, b01_n, lt_m2, lt_m1, le_m2, le_m1, Classical.not_not, j_Mod_askLeaves_0, b_Mod_askLeaves_0, j_Mod_askLeaves_17, b_Mod_askLeaves_17, j_Mod_askLeaves_31, b_Mod_askLeaves_31, j_Mod_askLeaves_36, b_Mod_askLeaves_36, an_0, an_1, cl_1, ne_0_1, ne_0_m2, ne_1_0, ne_1_m2, ne_m2_0, ne_m2_1, sh_44, vi_1]
  refine c_Mod_gd ?_
  simp only [cp_kk, cp_vc, cp_vs, cp_jm, cp_ent_en, cp_en_int, cp_en_ref, cp_en_ret, cp_en_long, cp_en_nil, cp_s1_at, cp_s2_at, cp_nl_int, cp_nl_ref, cp_nl_long, cp_nl_none, cp_pop_0, cp_pop_s, reduceIte, if_true, if_false, Bool.false_eq_true, Bool.true_eq_false, false_implies, implies_true, forall_const, true_implies, true_and, and_true, and_self, true_or, or_true, false_or, or_false, Value.category, List.length_cons, List.length_nil, Option.toList_some, Option.toList_none, List.cons_append, List.nil_append, List.append_nil, Prod.mk.injEq, Nat.add_zero, Nat.zero_add, Nat.reduceAdd, Nat.reduceSub, Nat.reduceEqDiff, Nat.reduceLeDiff, Nat.reduceLT, Nat.le_refl, beq_self_eq_true, Nat.reduceBEq, ne_eq, not_true_eq_false, not_false_eq_true, Int32.reduceAdd, Int32.reduceSub, Int32.reduceMul, Int32.reduceLE, Int32.reduceLT, Int32.reduceToNatClampNeg, b01_0, b01_1, ne_2_0, ne_3_0, ne_4_0, ne_5_0, ne_6_0, ne_m1_0, ne_m2_0, b01_01, b01_n, lt_m2, lt_m1, le_m2, le_m1, Classical.not_not, Bool.or_false, Bool.false_or, Bool.true_or, Bool.or_true, j_Mod_askLeaves_0, b_Mod_askLeaves_0, j_Mod_askLeaves_17, b_Mod_askLeaves_17, j_Mod_askLeaves_31, b_Mod_askLeaves_31, j_Mod_askLeaves_36, b_Mod_askLeaves_36, an_0, an_1, cl_1, ne_0_1, ne_0_m2, ne_1_0, ne_1_m2, ne_m2_0, ne_m2_1, sh_44, vi_1, gd_14]
  refine ⟨fun c => ?_, fun c => ?_⟩
  · refine c_Mod_askOf hn6 (by rw [gd47]; exact hn) (rU_gd hU) (fun M hM => ?_)
    rw [sk_gd I hn6] at hM
    rw [skA_gd I hn6]
    cases hA : skA I n um tm ua ub fs with
    | none =>
      simp only [oI]
      simp only [cp_kk, cp_vc, cp_vs, cp_jm, cp_ent_en, cp_en_int, cp_en_ref, cp_en_ret, cp_en_long, cp_en_nil, cp_s1_at, cp_s2_at, cp_nl_int, cp_nl_ref, cp_nl_long, cp_nl_none, cp_pop_0, cp_pop_s, reduceIte, if_true, if_false, Bool.false_eq_true, Bool.true_eq_false, false_implies, implies_true, forall_const, true_implies, true_and, and_true, and_self, true_or, or_true, false_or, or_false, Value.category, List.length_cons, List.length_nil, Option.toList_some, Option.toList_none, List.cons_append, List.nil_append, List.append_nil, Prod.mk.injEq, Nat.add_zero, Nat.zero_add, Nat.reduceAdd, Nat.reduceSub, Nat.reduceEqDiff, Nat.reduceLeDiff, Nat.reduceLT, Nat.le_refl, beq_self_eq_true, Nat.reduceBEq, ne_eq, not_true_eq_false, not_false_eq_true, Int32.reduceAdd, Int32.reduceSub, Int32.reduceMul, Int32.reduceLE, Int32.reduceLT, Int32.reduceToNatClampNeg, b01_0, b01_1, ne_2_0, ne_3_0, ne_4_0, ne_5_0, ne_6_0, ne_m1_0, ne_m2_0, b01_01, b01_n, lt_m2, lt_m1, le_m2, le_m1, Classical.not_not, Bool.or_false, Bool.false_or, Bool.true_or, Bool.or_true, j_Mod_askLeaves_0, b_Mod_askLeaves_0, j_Mod_askLeaves_17, b_Mod_askLeaves_17, j_Mod_askLeaves_31, b_Mod_askLeaves_31, j_Mod_askLeaves_36, b_Mod_askLeaves_36, an_0, an_1, cl_1, ne_0_1, ne_0_m2, ne_1_0, ne_1_m2, ne_m2_0, ne_m2_1, sh_44, vi_1]
      exact h2 c M hM hA
    | some k =>
      have hk4 : k < 4 := by
        unfold skA at hA
        split at hA
        · cases hA
        · exact ak_lt um 0 none 4 (fun c q => by cases q) (by omega) k hA
      have hge : (0 : Int32) ≤ nI k := nI_pos' (by omega)
      simp only [oI]
      obtain ⟨b1, b2⟩ := sk_b I (n := n) (um := um) (tm := tm) (ua := ua) (ub := ub) (fs := fs) (w := -1) hum
      simp only [cp_kk, cp_vc, cp_vs, cp_jm, cp_ent_en, cp_en_int, cp_en_ref, cp_en_ret, cp_en_long, cp_en_nil, cp_s1_at, cp_s2_at, cp_nl_int, cp_nl_ref, cp_nl_long, cp_nl_none, cp_pop_0, cp_pop_s, reduceIte, if_true, if_false, Bool.false_eq_true, Bool.true_eq_false, false_implies, implies_true, forall_const, true_implies, true_and, and_true, and_self, true_or, or_true, false_or, or_false, Value.category, List.length_cons, List.length_nil, Option.toList_some, Option.toList_none, List.cons_append, List.nil_append, List.append_nil, Prod.mk.injEq, Nat.add_zero, Nat.zero_add, Nat.reduceAdd, Nat.reduceSub, Nat.reduceEqDiff, Nat.reduceLeDiff, Nat.reduceLT, Nat.le_refl, beq_self_eq_true, Nat.reduceBEq, ne_eq, not_true_eq_false, not_false_eq_true, Int32.reduceAdd, Int32.reduceSub, Int32.reduceMul, Int32.reduceLE, Int32.reduceLT, Int32.reduceToNatClampNeg, b01_0, b01_1, ne_2_0, ne_3_0, ne_4_0, ne_5_0, ne_6_0, ne_m1_0, ne_m2_0, b01_01, b01_n, lt_m2, lt_m1, le_m2, le_m1, Classical.not_not, Bool.or_false, Bool.false_or, Bool.true_or, Bool.or_true, j_Mod_askLeaves_0, b_Mod_askLeaves_0, j_Mod_askLeaves_17, b_Mod_askLeaves_17, j_Mod_askLeaves_31, b_Mod_askLeaves_31, j_Mod_askLeaves_36, b_Mod_askLeaves_36, an_0, an_1, cl_1, ne_0_1, ne_0_m2, ne_1_0, ne_1_m2, ne_m2_0, ne_m2_1, sh_44, vi_1, hge]
      refine c_Mod_leavesOf (q := sk I n um tm ua ub fs (-1)) hk4 b1 (b2 k) hM.2.1 (hM.2.2.2.2 k hk4) ?_
      simp only [cp_kk, cp_vc, cp_vs, cp_jm, cp_ent_en, cp_en_int, cp_en_ref, cp_en_ret, cp_en_long, cp_en_nil, cp_s1_at, cp_s2_at, cp_nl_int, cp_nl_ref, cp_nl_long, cp_nl_none, cp_pop_0, cp_pop_s, reduceIte, if_true, if_false, Bool.false_eq_true, Bool.true_eq_false, false_implies, implies_true, forall_const, true_implies, true_and, and_true, and_self, true_or, or_true, false_or, or_false, Value.category, List.length_cons, List.length_nil, Option.toList_some, Option.toList_none, List.cons_append, List.nil_append, List.append_nil, Prod.mk.injEq, Nat.add_zero, Nat.zero_add, Nat.reduceAdd, Nat.reduceSub, Nat.reduceEqDiff, Nat.reduceLeDiff, Nat.reduceLT, Nat.le_refl, beq_self_eq_true, Nat.reduceBEq, ne_eq, not_true_eq_false, not_false_eq_true, Int32.reduceAdd, Int32.reduceSub, Int32.reduceMul, Int32.reduceLE, Int32.reduceLT, Int32.reduceToNatClampNeg, b01_0, b01_1, ne_2_0, ne_3_0, ne_4_0, ne_5_0, ne_6_0, ne_m1_0, ne_m2_0, b01_01, b01_n, lt_m2, lt_m1, le_m2, le_m1, Classical.not_not, Bool.or_false, Bool.false_or, Bool.true_or, Bool.or_true, j_Mod_askLeaves_0, b_Mod_askLeaves_0, j_Mod_askLeaves_17, b_Mod_askLeaves_17, j_Mod_askLeaves_31, b_Mod_askLeaves_31, j_Mod_askLeaves_36, b_Mod_askLeaves_36, an_0, an_1, cl_1, ne_0_1, ne_0_m2, ne_1_0, ne_1_m2, ne_m2_0, ne_m2_1, sh_44, vi_1]
      exact h1 c M k hM hA
  · refine c_Mod_no ?_
    simp only [cp_kk, cp_vc, cp_vs, cp_jm, cp_ent_en, cp_en_int, cp_en_ref, cp_en_ret, cp_en_long, cp_en_nil, cp_s1_at, cp_s2_at, cp_nl_int, cp_nl_ref, cp_nl_long, cp_nl_none, cp_pop_0, cp_pop_s, reduceIte, if_true, if_false, Bool.false_eq_true, Bool.true_eq_false, false_implies, implies_true, forall_const, true_implies, true_and, and_true, and_self, true_or, or_true, false_or, or_false, Value.category, List.length_cons, List.length_nil, Option.toList_some, Option.toList_none, List.cons_append, List.nil_append, List.append_nil, Prod.mk.injEq, Nat.add_zero, Nat.zero_add, Nat.reduceAdd, Nat.reduceSub, Nat.reduceEqDiff, Nat.reduceLeDiff, Nat.reduceLT, Nat.le_refl, beq_self_eq_true, Nat.reduceBEq, ne_eq, not_true_eq_false, not_false_eq_true, Int32.reduceAdd, Int32.reduceSub, Int32.reduceMul, Int32.reduceLE, Int32.reduceLT, Int32.reduceToNatClampNeg, b01_0, b01_1, ne_2_0, ne_3_0, ne_4_0, ne_5_0, ne_6_0, ne_m1_0, ne_m2_0, b01_01, b01_n, lt_m2, lt_m1, le_m2, le_m1, Classical.not_not, Bool.or_false, Bool.false_or, Bool.true_or, Bool.or_true, j_Mod_askLeaves_0, b_Mod_askLeaves_0, j_Mod_askLeaves_17, b_Mod_askLeaves_17, j_Mod_askLeaves_31, b_Mod_askLeaves_31, j_Mod_askLeaves_36, b_Mod_askLeaves_36, an_0, an_1, cl_1, ne_0_1, ne_0_m2, ne_1_0, ne_1_m2, ne_m2_0, ne_m2_1, sh_44, vi_1]
    exact h0 c
/-- CHILLS, as bits: numbers below 1024 -/
theorem or_nK {a b : Nat} (hb : b < 10) (h : a < 2 ^ b) : nI a ||| ((1 : Int32) <<< (nI b &&& 31)) = nI (a ||| 2 ^ b) := by
  have e1 : ∀ b : Nat, b < 10 → (1 : Int32) <<< (nI b &&& 31) = nI (2 ^ b) := by decide +kernel
  rw [e1 b hb]
  have key : ∀ b : Nat, b < 10 → ∀ a : Nat, a < 2 ^ b → nI a ||| nI (2 ^ b) = nI (a ||| 2 ^ b) := by decide +kernel
  exact key b hb a h
end Mod15
