section Tok1
variable {g : cp_G} {d : Nat} {sh : cp_H} {I M : cp_I} {J : cp_J} {P : cp_P} {Q : cp_QT} {t u r x : Nat} {T : Nat → Nat} {n p : Nat}
/-! the class reads tokens -/
def b8 (c : Nat) : Int32 := (nI c).toInt8.toInt32
theorem b8_lt {c : Nat} (h : c < 128) : b8 c = nI c := by
  have key : ∀ c : Nat, c < 128 → b8 c = nI c := by decide +kernel
  exact key c h
theorem b8_eq {c e : Nat} (hc : c < 256) (he : e < 128) : (b8 c = nI e) = (c = e) := by
  have key : ∀ c : Nat, c < 256 → ∀ e : Nat, e < 128 → (decide (b8 c = nI e) == decide (c = e)) = true := by decide +kernel
  have := key c hc e he
  simp only [beq_iff_eq, decide_eq_decide] at this
  exact propext this
theorem b8_sm {c : Nat} (hc : c < 256) : (if b8 c < 97 then (0 : Int32) else if 122 < b8 c then 0 else 1) = if isSm c = true then 1 else 0 := by
  have key : ∀ c : Nat, c < 256 → (if b8 c < 97 then (0 : Int32) else if 122 < b8 c then 0 else 1) = if isSm c = true then 1 else 0 := by decide +kernel
  exact key c hc
theorem b8_dg {c : Nat} (hc : c < 256) : (if b8 c < 48 then (0 : Int32) else if 57 < b8 c then 0 else 1) = if isDg c = true then 1 else 0 := by
  have key : ∀ c : Nat, c < 256 → (if b8 c < 48 then (0 : Int32) else if 57 < b8 c then 0 else 1) = if isDg c = true then 1 else 0 := by decide +kernel
  exact key c hc
theorem c_Tok_isLetter {c : Nat} (hc : c < 256) (h : Q (some (.int (if isSm c = true then 1 else 0))) sh I J P) : MW g false (d + 1) 0 0 m_Tok_isLetter [.int (b8 c)] sh I J P Q := by
  rw [← b8_sm hc] at h
  refine MW.of ok_Tok_isLetter (Nat.le_of_ble_eq_true rfl) ?_
  refine cp_run 20 (fun _ => false) ck_Tok_isLetter ?_
  simp only [cp_vc, cp_vs, cp_jm, cp_ent_en, cp_en_int, cp_en_ref, cp_en_ret, cp_en_long, cp_en_nil, cp_s1_at, cp_s2_at, cp_nl_int, cp_nl_ref, cp_nl_long, cp_nl_none, cp_pop_0, cp_pop_s, reduceIte, if_true, if_false, Bool.false_eq_true, Bool.true_eq_false, false_implies, implies_true, forall_const, true_implies, true_and, and_true, and_self, true_or, or_true, false_or, or_false, Value.category, List.length_cons, List.length_nil, Option.toList_some, Option.toList_none, List.cons_append, List.nil_append, List.append_nil, Prod.mk.injEq, Nat.add_zero, Nat.zero_add, Nat.reduceAdd, Nat.reduceSub, Nat.reduceEqDiff, Nat.reduceLeDiff, Nat.reduceLT, Nat.le_refl, beq_self_eq_true, Nat.reduceBEq, ne_eq, not_true_eq_false, not_false_eq_true, Int32.reduceAdd, Int32.reduceSub, Int32.reduceMul, Int32.reduceLE, Int32.reduceLT, Int32.reduceToNatClampNeg, b01_0, b01_1, ne_2_0, ne_3_0, ne_4_0, ne_5_0, ne_6_0, ne_m1_0, ne_m2_0, b01_01, b01_n, lt_m2, lt_m1, le_m2, le_m1, Classical.not_not, j_Tok_isLetter_0, b_Tok_isLetter_0, j_Tok_isLetter_16, b_Tok_isLetter_16, j_Tok_isLetter_17, b_Tok_isLetter_17, an_0, an_1, cl_0, cl_1, cl_122, cl_97, ne_0_1, ne_1_0, vi_0, vi_1, vi_122, vi_97]
  grind
theorem c_Tok_isDigit {c : Nat} (hc : c < 256) (h : Q (some (.int (if isDg c = true then 1 else 0))) sh I J P) : MW g false (d + 1) 0 0 m_Tok_isDigit [.int (b8 c)] sh I J P Q := by
  rw [← b8_dg hc] at h
  refine MW.of ok_Tok_isDigit (Nat.le_of_ble_eq_true rfl) ?_
  refine cp_run 20 (fun _ => false) ck_Tok_isDigit ?_
  simp only [cp_vc, cp_vs, cp_jm, cp_ent_en, cp_en_int, cp_en_ref, cp_en_ret, cp_en_long, cp_en_nil, cp_s1_at, cp_s2_at, cp_nl_int, cp_nl_ref, cp_nl_long, cp_nl_none, cp_pop_0, cp_pop_s, reduceIte, if_true, if_false, Bool.false_eq_true, Bool.true_eq_false, false_implies, implies_true, forall_const, true_implies, true_and, and_true, and_self, true_or, or_true, false_or, or_false, Value.category, List.length_cons, List.length_nil, Option.toList_some, Option.toList_none, List.cons_append, List.nil_append, List.append_nil, Prod.mk.injEq, Nat.add_zero, Nat.zero_add, Nat.reduceAdd, Nat.reduceSub, Nat.reduceEqDiff, Nat.reduceLeDiff, Nat.reduceLT, Nat.le_refl, beq_self_eq_true, Nat.reduceBEq, ne_eq, not_true_eq_false, not_false_eq_true, Int32.reduceAdd, Int32.reduceSub, Int32.reduceMul, Int32.reduceLE, Int32.reduceLT, Int32.reduceToNatClampNeg, b01_0, b01_1, ne_2_0, ne_3_0, ne_4_0, ne_5_0, ne_6_0, ne_m1_0, ne_m2_0, b01_01, b01_n, lt_m2, lt_m1, le_m2, le_m1, Classical.not_not, j_Tok_isDigit_0, b_Tok_isDigit_0, j_Tok_isDigit_16, b_Tok_isDigit_16, j_Tok_isDigit_17, b_Tok_isDigit_17, an_0, an_1, cl_0, cl_1, cl_48, cl_57, ne_0_1, ne_1_0, vi_0, vi_1, vi_48, vi_57]
  grind
def cTx (T : Nat → Nat) (n : Nat) (I : cp_I) : Prop := n ≤ 900 ∧ ∀ k, k < n → I 1 k = b8 (T k) ∧ T k < 256
def kF (I M : cp_I) : Prop := ∀ a j, ¬ (a = 13 ∧ (j = 2 ∨ j = 3 ∨ j = 4)) → M a j = I a j
theorem kF_refl (I : cp_I) : kF I I := fun _ _ _ => rfl
theorem kF_u (h : kF I M) {k : Nat} (v : Int32) (hk : k = 2 ∨ k = 3 ∨ k = 4) : kF I (cp_u M 13 k v) := by
  intro a j ha
  rw [cp_u_at, if_neg (by omega)]
  exact h a j ha
theorem kF_tr {M' : cp_I} (h : kF I M) (h' : kF M M') : kF I M' := fun a j ha => by rw [h' a j ha, h a j ha]
theorem kF_T (h : kF I M) (hT : cTx T n I) : cTx T n M := ⟨hT.1, fun k hk => by rw [h 1 k (by omega)]; exact hT.2 k hk⟩
def srt (s : Nat) : Nat := if s = 0 then 0 else if s = 2 then 1 else if s = 3 then 2 else if s = 1 then 4 else 3
def cTk (T : Nat → Nat) (n p : Nat) (M : cp_I) : Prop := M 13 1 = nI n ∧ M 13 2 = nI (te T n p) ∧ M 13 3 = nI (ta T n p) ∧ M 13 4 = nI (srt (ts T n p))
theorem lp_Tok_letters {a : Nat} (hT : cTx T n I) (h1 : I 13 1 = nI n) (h : ∀ M e, e = wh (fun k => isSm (T k)) (n - a) a → kF I M → M 13 3 = nI a → M 13 2 = nI e → M 13 4 = nI (if e - a ≤ 8 then 1 else 4) → Q none SH M J (PP t u r 1)) :
    ∀ (m k : Nat) (M : cp_I) (L : cp_Lo), k + m = n → a ≤ k → wh (fun k => isSm (T k)) m k = wh (fun k => isSm (T k)) (n - a) a → kF I M → M 13 3 = nI a → M 13 2 = nI k → L 0 = some (.ref 13) → RW g false (d + 2) 0 0 m_Tok_takeLetters 0 0 0 L [] SH M J (PP t u r 1) Q := by
  have hn := hT.1
  have stop : ∀ (k : Nat) (M : cp_I) (L : cp_Lo), k ≤ n → a ≤ k → k = wh (fun k => isSm (T k)) (n - a) a → kF I M → M 13 3 = nI a → M 13 2 = nI k → L 0 = some (.ref 13) → RW g false (d + 2) 0 0 m_Tok_takeLetters 0 0 39 L [] SH M J (PP t u r 1) Q := by
    intro k M L hk hak he hM h3 h2 l0
    have e8 : ((8 : Int32) < nI (k - a)) = (8 < k - a) := ltN (a := 8) (by omega) (by omega)
    refine cp_run 30 (fun _ => false) ck_Tok_takeLetters ?_
    simp only [cp_vc, cp_vs, cp_jm, cp_ent_en, cp_en_int, cp_en_ref, cp_en_ret, cp_en_long, cp_en_nil, cp_s1_at, cp_s2_at, cp_nl_int, cp_nl_ref, cp_nl_long, cp_nl_none, cp_pop_0, cp_pop_s, reduceIte, if_true, if_false, Bool.false_eq_true, Bool.true_eq_false, false_implies, implies_true, forall_const, true_implies, true_and, and_true, and_self, true_or, or_true, false_or, or_false, Value.category, List.length_cons, List.length_nil, Option.toList_some, Option.toList_none, List.cons_append, List.nil_append, List.append_nil, Prod.mk.injEq, Nat.add_zero, Nat.zero_add, Nat.reduceAdd, Nat.reduceSub, Nat.reduceEqDiff, Nat.reduceLeDiff, Nat.reduceLT, Nat.le_refl, beq_self_eq_true, Nat.reduceBEq, ne_eq, not_true_eq_false, not_false_eq_true, Int32.reduceAdd, Int32.reduceSub, Int32.reduceMul, Int32.reduceLE, Int32.reduceLT, Int32.reduceToNatClampNeg, b01_0, b01_1, ne_2_0, ne_3_0, ne_4_0, ne_5_0, ne_6_0, ne_m1_0, ne_m2_0, b01_01, b01_n, lt_m2, lt_m1, le_m2, le_m1, Classical.not_not, j_Tok_takeLetters_0, b_Tok_takeLetters_0, j_Tok_takeLetters_39, b_Tok_takeLetters_39, j_Tok_takeLetters_58, b_Tok_takeLetters_58, j_Tok_takeLetters_59, b_Tok_takeLetters_59, an_0, an_1, an_4, an_8, cl_1, cl_4, cl_8, ne_0_1, ne_0_4, ne_0_8, ne_1_0, ne_1_4, ne_1_8, ne_4_0, ne_4_1, ne_4_8, ne_8_0, ne_8_1, ne_8_4, pp_13_0, sh_13, vi_1, vi_4, vi_8, l0, h2, h3, pk_sub hak, e8]
    refine ⟨fun c => ?_, fun c => ?_⟩
    · refine h _ k he (kF_u hM _ (by omega)) ?_ ?_ ?_
      · simp [cp_u_at, h3]
      · simp [cp_u_at, h2]
      · rw [if_neg (by omega)]
        simp [cp_u_at]
        rfl
    · refine h _ k he (kF_u hM _ (by omega)) ?_ ?_ ?_
      · simp [cp_u_at, h3]
      · simp [cp_u_at, h2]
      · rw [if_pos (by omega)]
        simp [cp_u_at]
        rfl
  intro m
  induction m with
  | zero =>
    intro k M L hk hak he hM h3 h2 l0
    have h1M : M 13 1 = nI n := by rw [hM 13 1 (by omega)]; exact h1
    have c1 : nI n ≤ nI k := nI_le (by omega) (by omega)
    refine cp_run 30 (fun t => t == 0 || t == 39) ck_Tok_takeLetters ?_
    rw [j_Tok_takeLetters_0, b_Tok_takeLetters_0]
    simp only [cp_vc, cp_vs, cp_jm, cp_ent_en, cp_en_int, cp_en_ref, cp_en_ret, cp_en_long, cp_en_nil, cp_s1_at, cp_s2_at, cp_nl_int, cp_nl_ref, cp_nl_long, cp_nl_none, cp_pop_0, cp_pop_s, reduceIte, if_true, if_false, Bool.false_eq_true, Bool.true_eq_false, false_implies, implies_true, forall_const, true_implies, true_and, and_true, and_self, true_or, or_true, false_or, or_false, Value.category, List.length_cons, List.length_nil, Option.toList_some, Option.toList_none, List.cons_append, List.nil_append, List.append_nil, Prod.mk.injEq, Nat.add_zero, Nat.zero_add, Nat.reduceAdd, Nat.reduceSub, Nat.reduceEqDiff, Nat.reduceLeDiff, Nat.reduceLT, Nat.le_refl, beq_self_eq_true, Nat.reduceBEq, ne_eq, not_true_eq_false, not_false_eq_true, Int32.reduceAdd, Int32.reduceSub, Int32.reduceMul, Int32.reduceLE, Int32.reduceLT, Int32.reduceToNatClampNeg, b01_0, b01_1, ne_2_0, ne_3_0, ne_4_0, ne_5_0, ne_6_0, ne_m1_0, ne_m2_0, b01_01, b01_n, lt_m2, lt_m1, le_m2, le_m1, Classical.not_not, Bool.or_false, Bool.false_or, Bool.true_or, Bool.or_true, j_Tok_takeLetters_58, b_Tok_takeLetters_58, j_Tok_takeLetters_59, b_Tok_takeLetters_59, an_0, an_1, an_4, an_8, cl_1, cl_4, cl_8, ne_0_1, ne_0_4, ne_0_8, ne_1_0, ne_1_4, ne_1_8, ne_4_0, ne_4_1, ne_4_8, ne_8_0, ne_8_1, ne_8_4, pp_13_0, sh_13, vi_1, vi_4, vi_8, l0, h2, h1M, c1]
    exact stop k M L (by omega) hak he hM h3 h2 l0
  | succ m ih =>
    intro k M L hk hak he hM h3 h2 l0
    have h1M : M 13 1 = nI n := by rw [hM 13 1 (by omega)]; exact h1
    have c1 : ¬ nI n ≤ nI k := nI_ge (by omega) (by omega)
    obtain ⟨t1, t2⟩ := (kF_T hM hT).2 k (by omega)
    rw [wh] at he
    refine cp_run 30 (fun t => t == 0 || t == 39) ck_Tok_takeLetters ?_
    rw [j_Tok_takeLetters_0, b_Tok_takeLetters_0]
    simp only [cp_vc, cp_vs, cp_jm, cp_ent_en, cp_en_int, cp_en_ref, cp_en_ret, cp_en_long, cp_en_nil, cp_s1_at, cp_s2_at, cp_nl_int, cp_nl_ref, cp_nl_long, cp_nl_none, cp_pop_0, cp_pop_s, reduceIte, if_true, if_false, Bool.false_eq_true, Bool.true_eq_false, false_implies, implies_true, forall_const, true_implies, true_and, and_true, and_self, true_or, or_true, false_or, or_false, Value.category, List.length_cons, List.length_nil, Option.toList_some, Option.toList_none, List.cons_append, List.nil_append, List.append_nil, Prod.mk.injEq, Nat.add_zero, Nat.zero_add, Nat.reduceAdd, Nat.reduceSub, Nat.reduceEqDiff, Nat.reduceLeDiff, Nat.reduceLT, Nat.le_refl, beq_self_eq_true, Nat.reduceBEq, ne_eq, not_true_eq_false, not_false_eq_true, Int32.reduceAdd, Int32.reduceSub, Int32.reduceMul, Int32.reduceLE, Int32.reduceLT, Int32.reduceToNatClampNeg, b01_0, b01_1, ne_2_0, ne_3_0, ne_4_0, ne_5_0, ne_6_0, ne_m1_0, ne_m2_0, b01_01, b01_n, lt_m2, lt_m1, le_m2, le_m1, Classical.not_not, Bool.or_false, Bool.false_or, Bool.true_or, Bool.or_true, j_Tok_takeLetters_58, b_Tok_takeLetters_58, j_Tok_takeLetters_59, b_Tok_takeLetters_59, an_0, an_1, an_4, an_8, cl_1, cl_4, cl_8, ne_0_1, ne_0_4, ne_0_8, ne_1_0, ne_1_4, ne_1_8, ne_4_0, ne_4_1, ne_4_8, ne_8_0, ne_8_1, ne_8_4, pp_13_0, sh_13, vi_1, vi_4, vi_8, l0, h2, h1M, c1, pp_13_0, sh_1, vin (show k < 900 by omega) (by omega), ncl (show k < 1000 by omega), t1]
    refine c_Tok_isLetter t2 ?_
    simp only [cp_kk, cp_vc, cp_vs, cp_jm, cp_ent_en, cp_en_int, cp_en_ref, cp_en_ret, cp_en_long, cp_en_nil, cp_s1_at, cp_s2_at, cp_nl_int, cp_nl_ref, cp_nl_long, cp_nl_none, cp_pop_0, cp_pop_s, reduceIte, if_true, if_false, Bool.false_eq_true, Bool.true_eq_false, false_implies, implies_true, forall_const, true_implies, true_and, and_true, and_self, true_or, or_true, false_or, or_false, Value.category, List.length_cons, List.length_nil, Option.toList_some, Option.toList_none, List.cons_append, List.nil_append, List.append_nil, Prod.mk.injEq, Nat.add_zero, Nat.zero_add, Nat.reduceAdd, Nat.reduceSub, Nat.reduceEqDiff, Nat.reduceLeDiff, Nat.reduceLT, Nat.le_refl, beq_self_eq_true, Nat.reduceBEq, ne_eq, not_true_eq_false, not_false_eq_true, Int32.reduceAdd, Int32.reduceSub, Int32.reduceMul, Int32.reduceLE, Int32.reduceLT, Int32.reduceToNatClampNeg, b01_0, b01_1, ne_2_0, ne_3_0, ne_4_0, ne_5_0, ne_6_0, ne_m1_0, ne_m2_0, b01_01, b01_n, lt_m2, lt_m1, le_m2, le_m1, Classical.not_not, Bool.or_false, Bool.false_or, Bool.true_or, Bool.or_true, j_Tok_takeLetters_58, b_Tok_takeLetters_58, j_Tok_takeLetters_59, b_Tok_takeLetters_59, an_0, an_1, an_4, an_8, cl_1, cl_4, cl_8, ne_0_1, ne_0_4, ne_0_8, ne_1_0, ne_1_4, ne_1_8, ne_4_0, ne_4_1, ne_4_8, ne_8_0, ne_8_1, ne_8_4, pp_13_0, sh_13, vi_1, vi_4, vi_8, l0, h2, nI_1]
    refine ⟨fun c => ?_, fun c => ?_⟩
    · rw [if_neg c] at he
      exact stop k M L (by omega) hak he hM h3 h2 l0
    · rw [if_pos c] at he
      refine ih (k + 1) _ _ (by omega) (by omega) he (kF_u hM _ (by omega)) ?_ ?_ l0
      · simp [cp_u_at, h3]
      · simp [cp_u_at]
theorem lp_Tok_digits {a : Nat} (hT : cTx T n I) (h1 : I 13 1 = nI n) (h : ∀ M e, e = wh (fun k => isDg (T k)) (n - a) a → kF I M → M 13 3 = nI a → M 13 2 = nI e → M 13 4 = nI (if e - a ≤ 3 then 2 else 4) → Q none SH M J (PP t u r 1)) :
    ∀ (m k : Nat) (M : cp_I) (L : cp_Lo), k + m = n → a ≤ k → wh (fun k => isDg (T k)) m k = wh (fun k => isDg (T k)) (n - a) a → kF I M → M 13 3 = nI a → M 13 2 = nI k → L 0 = some (.ref 13) → RW g false (d + 2) 0 0 m_Tok_takeDigits 0 0 0 L [] SH M J (PP t u r 1) Q := by
  have hn := hT.1
  have stop : ∀ (k : Nat) (M : cp_I) (L : cp_Lo), k ≤ n → a ≤ k → k = wh (fun k => isDg (T k)) (n - a) a → kF I M → M 13 3 = nI a → M 13 2 = nI k → L 0 = some (.ref 13) → RW g false (d + 2) 0 0 m_Tok_takeDigits 0 0 39 L [] SH M J (PP t u r 1) Q := by
    intro k M L hk hak he hM h3 h2 l0
    have e8 : ((3 : Int32) < nI (k - a)) = (3 < k - a) := ltN (a := 3) (by omega) (by omega)
    refine cp_run 30 (fun _ => false) ck_Tok_takeDigits ?_
    simp only [cp_vc, cp_vs, cp_jm, cp_ent_en, cp_en_int, cp_en_ref, cp_en_ret, cp_en_long, cp_en_nil, cp_s1_at, cp_s2_at, cp_nl_int, cp_nl_ref, cp_nl_long, cp_nl_none, cp_pop_0, cp_pop_s, reduceIte, if_true, if_false, Bool.false_eq_true, Bool.true_eq_false, false_implies, implies_true, forall_const, true_implies, true_and, and_true, and_self, true_or, or_true, false_or, or_false, Value.category, List.length_cons, List.length_nil, Option.toList_some, Option.toList_none, List.cons_append, List.nil_append, List.append_nil, Prod.mk.injEq, Nat.add_zero, Nat.zero_add, Nat.reduceAdd, Nat.reduceSub, Nat.reduceEqDiff, Nat.reduceLeDiff, Nat.reduceLT, Nat.le_refl, beq_self_eq_true, Nat.reduceBEq, ne_eq, not_true_eq_false, not_false_eq_true, Int32.reduceAdd, Int32.reduceSub, Int32.reduceMul, Int32.reduceLE, Int32.reduceLT, Int32.reduceToNatClampNeg, b01_0, b01_1, ne_2_0, ne_3_0, ne_4_0, ne_5_0, ne_6_0, ne_m1_0, ne_m2_0, b01_01, b01_n, lt_m2, lt_m1, le_m2, le_m1, Classical.not_not, j_Tok_takeDigits_0, b_Tok_takeDigits_0, j_Tok_takeDigits_39, b_Tok_takeDigits_39, j_Tok_takeDigits_57, b_Tok_takeDigits_57, j_Tok_takeDigits_58, b_Tok_takeDigits_58, an_0, an_1, an_2, an_3, an_4, cl_1, cl_2, cl_3, cl_4, ne_0_1, ne_0_2, ne_0_3, ne_0_4, ne_1_0, ne_1_2, ne_1_3, ne_1_4, ne_2_0, ne_2_1, ne_2_3, ne_2_4, ne_3_0, ne_3_1, ne_3_2, ne_3_4, ne_4_0, ne_4_1, ne_4_2, ne_4_3, pp_13_0, sh_13, vi_1, vi_2, vi_3, vi_4, l0, h2, h3, pk_sub hak, e8]
    refine ⟨fun c => ?_, fun c => ?_⟩
    · refine h _ k he (kF_u hM _ (by omega)) ?_ ?_ ?_
      · simp [cp_u_at, h3]
      · simp [cp_u_at, h2]
      · rw [if_neg (by omega)]
        simp [cp_u_at]
        rfl
    · refine h _ k he (kF_u hM _ (by omega)) ?_ ?_ ?_
      · simp [cp_u_at, h3]
      · simp [cp_u_at, h2]
      · rw [if_pos (by omega)]
        simp [cp_u_at]
        rfl
  intro m
  induction m with
  | zero =>
    intro k M L hk hak he hM h3 h2 l0
    have h1M : M 13 1 = nI n := by rw [hM 13 1 (by omega)]; exact h1
    have c1 : nI n ≤ nI k := nI_le (by omega) (by omega)
    refine cp_run 30 (fun t => t == 0 || t == 39) ck_Tok_takeDigits ?_
    rw [j_Tok_takeDigits_0, b_Tok_takeDigits_0]
    simp only [cp_vc, cp_vs, cp_jm, cp_ent_en, cp_en_int, cp_en_ref, cp_en_ret, cp_en_long, cp_en_nil, cp_s1_at, cp_s2_at, cp_nl_int, cp_nl_ref, cp_nl_long, cp_nl_none, cp_pop_0, cp_pop_s, reduceIte, if_true, if_false, Bool.false_eq_true, Bool.true_eq_false, false_implies, implies_true, forall_const, true_implies, true_and, and_true, and_self, true_or, or_true, false_or, or_false, Value.category, List.length_cons, List.length_nil, Option.toList_some, Option.toList_none, List.cons_append, List.nil_append, List.append_nil, Prod.mk.injEq, Nat.add_zero, Nat.zero_add, Nat.reduceAdd, Nat.reduceSub, Nat.reduceEqDiff, Nat.reduceLeDiff, Nat.reduceLT, Nat.le_refl, beq_self_eq_true, Nat.reduceBEq, ne_eq, not_true_eq_false, not_false_eq_true, Int32.reduceAdd, Int32.reduceSub, Int32.reduceMul, Int32.reduceLE, Int32.reduceLT, Int32.reduceToNatClampNeg, b01_0, b01_1, ne_2_0, ne_3_0, ne_4_0, ne_5_0, ne_6_0, ne_m1_0, ne_m2_0, b01_01, b01_n, lt_m2, lt_m1, le_m2, le_m1, Classical.not_not, Bool.or_false, Bool.false_or, Bool.true_or, Bool.or_true, j_Tok_takeDigits_57, b_Tok_takeDigits_57, j_Tok_takeDigits_58, b_Tok_takeDigits_58, an_0, an_1, an_2, an_3, an_4, cl_1, cl_2, cl_3, cl_4, ne_0_1, ne_0_2, ne_0_3, ne_0_4, ne_1_0, ne_1_2, ne_1_3, ne_1_4, ne_2_0, ne_2_1, ne_2_3, ne_2_4, ne_3_0, ne_3_1, ne_3_2, ne_3_4, ne_4_0, ne_4_1, ne_4_2, ne_4_3, pp_13_0, sh_13, vi_1, vi_2, vi_3, vi_4, l0, h2, h1M, c1]
    exact stop k M L (by omega) hak he hM h3 h2 l0
  | succ m ih =>
    intro k M L hk hak he hM h3 h2 l0
    have h1M : M 13 1 = nI n := by rw [hM 13 1 (by omega)]; exact h1
    have c1 : ¬ nI n ≤ nI k := nI_ge (by omega) (by omega)
    obtain ⟨t1, t2⟩ := (kF_T hM hT).2 k (by omega)
    rw [wh] at he
    refine cp_run 30 (fun t => t == 0 || t == 39) ck_Tok_takeDigits ?_
    rw [j_Tok_takeDigits_0, b_Tok_takeDigits_0]
    simp only [cp_vc, cp_vs, cp_jm, cp_ent_en, cp_en_int, cp_en_ref, cp_en_ret, cp_en_long, cp_en_nil, cp_s1_at, cp_s2_at, cp_nl_int, cp_nl_ref, cp_nl_long, cp_nl_none, cp_pop_0, cp_pop_s, reduceIte, if_true, if_false, Bool.false_eq_true, Bool.true_eq_false, false_implies, implies_true, forall_const, true_implies, true_and, and_true, and_self, true_or, or_true, false_or, or_false, Value.category, List.length_cons, List.length_nil, Option.toList_some, Option.toList_none, List.cons_append, List.nil_append, List.append_nil, Prod.mk.injEq, Nat.add_zero, Nat.zero_add, Nat.reduceAdd, Nat.reduceSub, Nat.reduceEqDiff, Nat.reduceLeDiff, Nat.reduceLT, Nat.le_refl, beq_self_eq_true, Nat.reduceBEq, ne_eq, not_true_eq_false, not_false_eq_true, Int32.reduceAdd, Int32.reduceSub, Int32.reduceMul, Int32.reduceLE, Int32.reduceLT, Int32.reduceToNatClampNeg, b01_0, b01_1, ne_2_0, ne_3_0, ne_4_0, ne_5_0, ne_6_0, ne_m1_0, ne_m2_0, b01_01, b01_n, lt_m2, lt_m1, le_m2, le_m1, Classical.not_not, Bool.or_false, Bool.false_or, Bool.true_or, Bool.or_true, j_Tok_takeDigits_57, b_Tok_takeDigits_57, j_Tok_takeDigits_58, b_Tok_takeDigits_58, an_0, an_1, an_2, an_3, an_4, cl_1, cl_2, cl_3, cl_4, ne_0_1, ne_0_2, ne_0_3, ne_0_4, ne_1_0, ne_1_2, ne_1_3, ne_1_4, ne_2_0, ne_2_1, ne_2_3, ne_2_4, ne_3_0, ne_3_1, ne_3_2, ne_3_4, ne_4_0, ne_4_1, ne_4_2, ne_4_3, pp_13_0, sh_13, vi_1, vi_2, vi_3, vi_4, l0, h2, h1M, c1, pp_13_0, sh_1, vin (show k < 900 by omega) (by omega), ncl (show k < 1000 by omega), t1]
    refine c_Tok_isDigit t2 ?_
    simp only [cp_kk, cp_vc, cp_vs, cp_jm, cp_ent_en, cp_en_int, cp_en_ref, cp_en_ret, cp_en_long, cp_en_nil, cp_s1_at, cp_s2_at, cp_nl_int, cp_nl_ref, cp_nl_long, cp_nl_none, cp_pop_0, cp_pop_s, reduceIte, if_true, if_false, Bool.false_eq_true, Bool.true_eq_false, false_implies, implies_true, forall_const, true_implies, true_and, and_true, and_self, true_or, or_true, false_or, or_false, Value.category, List.length_cons, List.length_nil, Option.toList_some, Option.toList_none, List.cons_append, List.nil_append, List.append_nil, Prod.mk.injEq, Nat.add_zero, Nat.zero_add, Nat.reduceAdd, Nat.reduceSub, Nat.reduceEqDiff, Nat.reduceLeDiff, Nat.reduceLT, Nat.le_refl, beq_self_eq_true, Nat.reduceBEq, ne_eq, not_true_eq_false, not_false_eq_true, Int32.reduceAdd, Int32.reduceSub, Int32.reduceMul, Int32.reduceLE, Int32.reduceLT, Int32.reduceToNatClampNeg, b01_0, b01_1, ne_2_0, ne_3_0, ne_4_0, ne_5_0, ne_6_0, ne_m1_0, ne_m2_0, b01_01, b01_n, lt_m2, lt_m1, le_m2, le_m1, Classical.not_not, Bool.or_false, Bool.false_or, Bool.true_or, Bool.or_true, j_Tok_takeDigits_57, b_Tok_takeDigits_57, j_Tok_takeDigits_58, b_Tok_takeDigits_58, an_0, an_1, an_2, an_3, an_4, cl_1, cl_2, cl_3, cl_4, ne_0_1, ne_0_2, ne_0_3, ne_0_4, ne_1_0, ne_1_2, ne_1_3, ne_1_4, ne_2_0, ne_2_1, ne_2_3, ne_2_4, ne_3_0, ne_3_1, ne_3_2, ne_3_4, ne_4_0, ne_4_1, ne_4_2, ne_4_3, pp_13_0, sh_13, vi_1, vi_2, vi_3, vi_4, l0, h2, nI_1]
    refine ⟨fun c => ?_, fun c => ?_⟩
    · rw [if_neg c] at he
      exact stop k M L (by omega) hak he hM h3 h2 l0
    · rw [if_pos c] at he
      refine ih (k + 1) _ _ (by omega) (by omega) he (kF_u hM _ (by omega)) ?_ ?_ l0
      · simp [cp_u_at, h3]
      · simp [cp_u_at]
theorem c_Tok_letters {a : Nat} (hT : cTx T n I) (h1 : I 13 1 = nI n) (ha : a ≤ n) (h3 : I 13 3 = nI a) (h2 : I 13 2 = nI a) (h : ∀ M e, e = wh (fun k => isSm (T k)) (n - a) a → kF I M → M 13 3 = nI a → M 13 2 = nI e → M 13 4 = nI (if e - a ≤ 8 then 1 else 4) → Q none SH M J (PP t u r 1)) : MW g false (d + 2) 0 0 m_Tok_takeLetters [.ref 13] SH I J (PP t u r 1) Q := by
  refine MW.of ok_Tok_takeLetters (Nat.le_of_ble_eq_true rfl) ?_
  exact lp_Tok_letters hT h1 h (n - a) a I _ (by omega) (by omega) rfl (kF_refl I) h3 h2 (by simp [cp_ent_en, cp_en_ref])
theorem c_Tok_digits {a : Nat} (hT : cTx T n I) (h1 : I 13 1 = nI n) (ha : a ≤ n) (h3 : I 13 3 = nI a) (h2 : I 13 2 = nI a) (h : ∀ M e, e = wh (fun k => isDg (T k)) (n - a) a → kF I M → M 13 3 = nI a → M 13 2 = nI e → M 13 4 = nI (if e - a ≤ 3 then 2 else 4) → Q none SH M J (PP t u r 1)) : MW g false (d + 2) 0 0 m_Tok_takeDigits [.ref 13] SH I J (PP t u r 1) Q := by
  refine MW.of ok_Tok_takeDigits (Nat.le_of_ble_eq_true rfl) ?_
  exact lp_Tok_digits hT h1 h (n - a) a I _ (by omega) (by omega) rfl (kF_refl I) h3 h2 (by simp [cp_ent_en, cp_en_ref])
theorem lp_Tok_blank (hT : cTx T n I) (h1 : I 13 1 = nI n) (h : ∀ (M : cp_I) (L : cp_Lo), L 0 = some (.ref 13) → kF I M → M 13 3 = nI (ta T n p) → RW g false (d + 3) 0 0 m_Tok_step 0 0 46 L [] SH M J (PP t u r 1) Q) :
    ∀ (m k : Nat) (M : cp_I) (L : cp_Lo), k + m = n → wh (fun k => T k == 32) m k = ta T n p → kF I M → M 13 3 = nI k → L 0 = some (.ref 13) → RW g false (d + 3) 0 0 m_Tok_step 0 0 8 L [] SH M J (PP t u r 1) Q := by
  have hn := hT.1
  intro m
  induction m with
  | zero =>
    intro k M L hk he hM h3 l0
    have h1M : M 13 1 = nI n := by rw [hM 13 1 (by omega)]; exact h1
    have c1 : nI n ≤ nI k := nI_le (by omega) (by omega)
    rw [wh] at he
    refine cp_run 30 (fun t => t == 8 || t == 46) ck_Tok_step ?_
    rw [j_Tok_step_8, b_Tok_step_8]
    simp only [cp_vc, cp_vs, cp_jm, cp_ent_en, cp_en_int, cp_en_ref, cp_en_ret, cp_en_long, cp_en_nil, cp_s1_at, cp_s2_at, cp_nl_int, cp_nl_ref, cp_nl_long, cp_nl_none, cp_pop_0, cp_pop_s, reduceIte, if_true, if_false, Bool.false_eq_true, Bool.true_eq_false, false_implies, implies_true, forall_const, true_implies, true_and, and_true, and_self, true_or, or_true, false_or, or_false, Value.category, List.length_cons, List.length_nil, Option.toList_some, Option.toList_none, List.cons_append, List.nil_append, List.append_nil, Prod.mk.injEq, Nat.add_zero, Nat.zero_add, Nat.reduceAdd, Nat.reduceSub, Nat.reduceEqDiff, Nat.reduceLeDiff, Nat.reduceLT, Nat.le_refl, beq_self_eq_true, Nat.reduceBEq, ne_eq, not_true_eq_false, not_false_eq_true, Int32.reduceAdd, Int32.reduceSub, Int32.reduceMul, Int32.reduceLE, Int32.reduceLT, Int32.reduceToNatClampNeg, b01_0, b01_1, ne_2_0, ne_3_0, ne_4_0, ne_5_0, ne_6_0, ne_m1_0, ne_m2_0, b01_01, b01_n, lt_m2, lt_m1, le_m2, le_m1, Classical.not_not, Bool.or_false, Bool.false_or, Bool.true_or, Bool.or_true, j_Tok_step_0, b_Tok_step_0, j_Tok_step_73, b_Tok_step_73, j_Tok_step_95, b_Tok_step_95, j_Tok_step_117, b_Tok_step_117, j_Tok_step_146, b_Tok_step_146, j_Tok_step_150, b_Tok_step_150, j_Tok_step_151, b_Tok_step_151, j_Tok_step_164, b_Tok_step_164, an_0, an_1, an_3, an_4, cl_0, cl_1, cl_3, cl_32, cl_4, cl_44, cl_59, ne_0_1, ne_0_3, ne_0_4, ne_1_0, ne_1_3, ne_1_4, ne_3_0, ne_3_1, ne_3_4, ne_4_0, ne_4_1, ne_4_3, pp_13_0, sh_13, vi_0, vi_1, vi_3, vi_32, vi_4, vi_44, vi_59, l0, h3, h1M, c1]
    exact h M L l0 hM (by rw [h3, he])
  | succ m ih =>
    intro k M L hk he hM h3 l0
    have h1M : M 13 1 = nI n := by rw [hM 13 1 (by omega)]; exact h1
    have c1 : ¬ nI n ≤ nI k := nI_ge (by omega) (by omega)
    obtain ⟨t1, t2⟩ := (kF_T hM hT).2 k (by omega)
    have e32 : (b8 (T k) = 32) = (T k = 32) := b8_eq (e := 32) t2 (by omega)
    rw [wh] at he
    refine cp_run 40 (fun t => t == 8 || t == 46) ck_Tok_step ?_
    rw [j_Tok_step_8, b_Tok_step_8]
    simp only [cp_vc, cp_vs, cp_jm, cp_ent_en, cp_en_int, cp_en_ref, cp_en_ret, cp_en_long, cp_en_nil, cp_s1_at, cp_s2_at, cp_nl_int, cp_nl_ref, cp_nl_long, cp_nl_none, cp_pop_0, cp_pop_s, reduceIte, if_true, if_false, Bool.false_eq_true, Bool.true_eq_false, false_implies, implies_true, forall_const, true_implies, true_and, and_true, and_self, true_or, or_true, false_or, or_false, Value.category, List.length_cons, List.length_nil, Option.toList_some, Option.toList_none, List.cons_append, List.nil_append, List.append_nil, Prod.mk.injEq, Nat.add_zero, Nat.zero_add, Nat.reduceAdd, Nat.reduceSub, Nat.reduceEqDiff, Nat.reduceLeDiff, Nat.reduceLT, Nat.le_refl, beq_self_eq_true, Nat.reduceBEq, ne_eq, not_true_eq_false, not_false_eq_true, Int32.reduceAdd, Int32.reduceSub, Int32.reduceMul, Int32.reduceLE, Int32.reduceLT, Int32.reduceToNatClampNeg, b01_0, b01_1, ne_2_0, ne_3_0, ne_4_0, ne_5_0, ne_6_0, ne_m1_0, ne_m2_0, b01_01, b01_n, lt_m2, lt_m1, le_m2, le_m1, Classical.not_not, Bool.or_false, Bool.false_or, Bool.true_or, Bool.or_true, j_Tok_step_0, b_Tok_step_0, j_Tok_step_73, b_Tok_step_73, j_Tok_step_95, b_Tok_step_95, j_Tok_step_117, b_Tok_step_117, j_Tok_step_146, b_Tok_step_146, j_Tok_step_150, b_Tok_step_150, j_Tok_step_151, b_Tok_step_151, j_Tok_step_164, b_Tok_step_164, an_0, an_1, an_3, an_4, cl_0, cl_1, cl_3, cl_32, cl_4, cl_44, cl_59, ne_0_1, ne_0_3, ne_0_4, ne_1_0, ne_1_3, ne_1_4, ne_3_0, ne_3_1, ne_3_4, ne_4_0, ne_4_1, ne_4_3, pp_13_0, sh_13, vi_0, vi_1, vi_3, vi_32, vi_4, vi_44, vi_59, l0, h3, h1M, c1, pp_13_0, sh_1, vin (show k < 900 by omega) (by omega), ncl (show k < 1000 by omega), t1, e32, nI_1]
    refine ⟨fun c => ?_, fun c => ?_⟩
    · rw [if_neg (by simp [c])] at he
      exact h M L l0 hM (by rw [h3, he])
    · rw [if_pos (by simp [c])] at he
      refine ih (k + 1) _ _ (by omega) he (kF_u hM _ (by omega)) ?_ l0
      simp [cp_u_at]
theorem c_Tok_step (hT : cTx T n I) (h1 : I 13 1 = nI n) (h2 : I 13 2 = nI p) (hp : p ≤ n) (h : ∀ M, kF I M → cTk T n p M → Q none SH M J (PP t u r 1)) : MW g false (d + 3) 0 0 m_Tok_step [.ref 13] SH I J (PP t u r 1) Q := by
  have hn := hT.1
  refine MW.of ok_Tok_step (Nat.le_of_ble_eq_true rfl) ?_
  refine cp_run 30 (fun t => t == 8) ck_Tok_step ?_
  simp only [cp_vc, cp_vs, cp_jm, cp_ent_en, cp_en_int, cp_en_ref, cp_en_ret, cp_en_long, cp_en_nil, cp_s1_at, cp_s2_at, cp_nl_int, cp_nl_ref, cp_nl_long, cp_nl_none, cp_pop_0, cp_pop_s, reduceIte, if_true, if_false, Bool.false_eq_true, Bool.true_eq_false, false_implies, implies_true, forall_const, true_implies, true_and, and_true, and_self, true_or, or_true, false_or, or_false, Value.category, List.length_cons, List.length_nil, Option.toList_some, Option.toList_none, List.cons_append, List.nil_append, List.append_nil, Prod.mk.injEq, Nat.add_zero, Nat.zero_add, Nat.reduceAdd, Nat.reduceSub, Nat.reduceEqDiff, Nat.reduceLeDiff, Nat.reduceLT, Nat.le_refl, beq_self_eq_true, Nat.reduceBEq, ne_eq, not_true_eq_false, not_false_eq_true, Int32.reduceAdd, Int32.reduceSub, Int32.reduceMul, Int32.reduceLE, Int32.reduceLT, Int32.reduceToNatClampNeg, b01_0, b01_1, ne_2_0, ne_3_0, ne_4_0, ne_5_0, ne_6_0, ne_m1_0, ne_m2_0, b01_01, b01_n, lt_m2, lt_m1, le_m2, le_m1, Classical.not_not, j_Tok_step_0, b_Tok_step_0, j_Tok_step_46, b_Tok_step_46, j_Tok_step_73, b_Tok_step_73, j_Tok_step_95, b_Tok_step_95, j_Tok_step_117, b_Tok_step_117, j_Tok_step_146, b_Tok_step_146, j_Tok_step_150, b_Tok_step_150, j_Tok_step_151, b_Tok_step_151, j_Tok_step_164, b_Tok_step_164, an_0, an_1, an_3, an_4, cl_0, cl_1, cl_3, cl_32, cl_4, cl_44, cl_59, ne_0_1, ne_0_3, ne_0_4, ne_1_0, ne_1_3, ne_1_4, ne_3_0, ne_3_1, ne_3_4, ne_4_0, ne_4_1, ne_4_3, pp_13_0, sh_13, vi_0, vi_1, vi_3, vi_32, vi_4, vi_44, vi_59, h2]
  refine lp_Tok_blank (p := p) hT h1 ?_ (n - p) p _ _ (by omega) rfl (kF_u (kF_refl I) _ (by omega)) ?_ ?_
  · intro M L l0 hM h3
    have ha := ta_le (T := T) hp
    have h1M : M 13 1 = nI n := by rw [hM 13 1 (by omega)]; exact h1
    have hM1 : kF I (cp_u M 13 2 (nI (ta T n p))) := kF_u hM _ (by omega)
    by_cases hk : ta T n p < n
    · have c1 : nI (ta T n p) < nI n := nI_lt hk (by omega)
      obtain ⟨t1, t2⟩ := (kF_T hM1 hT).2 _ hk
      have h1M1 : cp_u M 13 2 (nI (ta T n p)) 13 1 = nI n := by simp [cp_u_at, h1M]
      have h3M1 : cp_u M 13 2 (nI (ta T n p)) 13 3 = nI (ta T n p) := by simp [cp_u_at, h3]
      have h2M1 : cp_u M 13 2 (nI (ta T n p)) 13 2 = nI (ta T n p) := by simp [cp_u_at]
      refine cp_run 60 (fun t => t == 95 || t == 164) ck_Tok_step ?_
      simp only [cp_vc, cp_vs, cp_jm, cp_ent_en, cp_en_int, cp_en_ref, cp_en_ret, cp_en_long, cp_en_nil, cp_s1_at, cp_s2_at, cp_nl_int, cp_nl_ref, cp_nl_long, cp_nl_none, cp_pop_0, cp_pop_s, reduceIte, if_true, if_false, Bool.false_eq_true, Bool.true_eq_false, false_implies, implies_true, forall_const, true_implies, true_and, and_true, and_self, true_or, or_true, false_or, or_false, Value.category, List.length_cons, List.length_nil, Option.toList_some, Option.toList_none, List.cons_append, List.nil_append, List.append_nil, Prod.mk.injEq, Nat.add_zero, Nat.zero_add, Nat.reduceAdd, Nat.reduceSub, Nat.reduceEqDiff, Nat.reduceLeDiff, Nat.reduceLT, Nat.le_refl, beq_self_eq_true, Nat.reduceBEq, ne_eq, not_true_eq_false, not_false_eq_true, Int32.reduceAdd, Int32.reduceSub, Int32.reduceMul, Int32.reduceLE, Int32.reduceLT, Int32.reduceToNatClampNeg, b01_0, b01_1, ne_2_0, ne_3_0, ne_4_0, ne_5_0, ne_6_0, ne_m1_0, ne_m2_0, b01_01, b01_n, lt_m2, lt_m1, le_m2, le_m1, Classical.not_not, Bool.or_false, Bool.false_or, Bool.true_or, Bool.or_true, j_Tok_step_0, b_Tok_step_0, j_Tok_step_8, b_Tok_step_8, j_Tok_step_46, b_Tok_step_46, j_Tok_step_73, b_Tok_step_73, j_Tok_step_117, b_Tok_step_117, j_Tok_step_146, b_Tok_step_146, j_Tok_step_150, b_Tok_step_150, j_Tok_step_151, b_Tok_step_151, an_0, an_1, an_3, an_4, cl_0, cl_1, cl_3, cl_32, cl_4, cl_44, cl_59, ne_0_1, ne_0_3, ne_0_4, ne_1_0, ne_1_3, ne_1_4, ne_3_0, ne_3_1, ne_3_4, ne_4_0, ne_4_1, ne_4_3, pp_13_0, sh_13, vi_0, vi_1, vi_3, vi_32, vi_4, vi_44, vi_59, l0, h3, h1M1, h3M1, c1, pp_13_0, sh_1, vin (show ta T n p < 900 by omega) (by omega), ncl (show ta T n p < 1000 by omega), t1]
      refine c_Tok_isLetter (d := d + 1) t2 ?_
      simp only [cp_kk, cp_vc, cp_vs, cp_jm, cp_ent_en, cp_en_int, cp_en_ref, cp_en_ret, cp_en_long, cp_en_nil, cp_s1_at, cp_s2_at, cp_nl_int, cp_nl_ref, cp_nl_long, cp_nl_none, cp_pop_0, cp_pop_s, reduceIte, if_true, if_false, Bool.false_eq_true, Bool.true_eq_false, false_implies, implies_true, forall_const, true_implies, true_and, and_true, and_self, true_or, or_true, false_or, or_false, Value.category, List.length_cons, List.length_nil, Option.toList_some, Option.toList_none, List.cons_append, List.nil_append, List.append_nil, Prod.mk.injEq, Nat.add_zero, Nat.zero_add, Nat.reduceAdd, Nat.reduceSub, Nat.reduceEqDiff, Nat.reduceLeDiff, Nat.reduceLT, Nat.le_refl, beq_self_eq_true, Nat.reduceBEq, ne_eq, not_true_eq_false, not_false_eq_true, Int32.reduceAdd, Int32.reduceSub, Int32.reduceMul, Int32.reduceLE, Int32.reduceLT, Int32.reduceToNatClampNeg, b01_0, b01_1, ne_2_0, ne_3_0, ne_4_0, ne_5_0, ne_6_0, ne_m1_0, ne_m2_0, b01_01, b01_n, lt_m2, lt_m1, le_m2, le_m1, Classical.not_not, Bool.or_false, Bool.false_or, Bool.true_or, Bool.or_true, j_Tok_step_0, b_Tok_step_0, j_Tok_step_8, b_Tok_step_8, j_Tok_step_46, b_Tok_step_46, j_Tok_step_73, b_Tok_step_73, j_Tok_step_117, b_Tok_step_117, j_Tok_step_146, b_Tok_step_146, j_Tok_step_150, b_Tok_step_150, j_Tok_step_151, b_Tok_step_151, an_0, an_1, an_3, an_4, cl_0, cl_1, cl_3, cl_32, cl_4, cl_44, cl_59, ne_0_1, ne_0_3, ne_0_4, ne_1_0, ne_1_3, ne_1_4, ne_3_0, ne_3_1, ne_3_4, ne_4_0, ne_4_1, ne_4_3, pp_13_0, sh_13, vi_0, vi_1, vi_3, vi_32, vi_4, vi_44, vi_59, l0]
      have fin : ∀ (L : cp_Lo) (M : cp_I), kF I M → cTk T n p M → RW g false (d + 3) 0 0 m_Tok_step 0 0 164 L [] SH M J (PP t u r 1) Q := by
        intro L M k1 k2
        refine cp_run 10 (fun _ => false) ck_Tok_step ?_
        simp only [cp_vc, cp_vs, cp_jm, cp_ent_en, cp_en_int, cp_en_ref, cp_en_ret, cp_en_long, cp_en_nil, cp_s1_at, cp_s2_at, cp_nl_int, cp_nl_ref, cp_nl_long, cp_nl_none, cp_pop_0, cp_pop_s, reduceIte, if_true, if_false, Bool.false_eq_true, Bool.true_eq_false, false_implies, implies_true, forall_const, true_implies, true_and, and_true, and_self, true_or, or_true, false_or, or_false, Value.category, List.length_cons, List.length_nil, Option.toList_some, Option.toList_none, List.cons_append, List.nil_append, List.append_nil, Prod.mk.injEq, Nat.add_zero, Nat.zero_add, Nat.reduceAdd, Nat.reduceSub, Nat.reduceEqDiff, Nat.reduceLeDiff, Nat.reduceLT, Nat.le_refl, beq_self_eq_true, Nat.reduceBEq, ne_eq, not_true_eq_false, not_false_eq_true, Int32.reduceAdd, Int32.reduceSub, Int32.reduceMul, Int32.reduceLE, Int32.reduceLT, Int32.reduceToNatClampNeg, b01_0, b01_1, ne_2_0, ne_3_0, ne_4_0, ne_5_0, ne_6_0, ne_m1_0, ne_m2_0, b01_01, b01_n, lt_m2, lt_m1, le_m2, le_m1, Classical.not_not, j_Tok_step_0, b_Tok_step_0, j_Tok_step_8, b_Tok_step_8, j_Tok_step_46, b_Tok_step_46, j_Tok_step_73, b_Tok_step_73, j_Tok_step_95, b_Tok_step_95, j_Tok_step_117, b_Tok_step_117, j_Tok_step_146, b_Tok_step_146, j_Tok_step_150, b_Tok_step_150, j_Tok_step_151, b_Tok_step_151, j_Tok_step_164, b_Tok_step_164, an_0, an_1, an_3, an_4, cl_0, cl_1, cl_3, cl_32, cl_4, cl_44, cl_59, ne_0_1, ne_0_3, ne_0_4, ne_1_0, ne_1_3, ne_1_4, ne_3_0, ne_3_1, ne_3_4, ne_4_0, ne_4_1, ne_4_3, pp_13_0, sh_13, vi_0, vi_1, vi_3, vi_32, vi_4, vi_44, vi_59]
        exact h M k1 k2
      refine ⟨fun q1 => ?_, fun q1 => ?_⟩
      · refine cp_run 60 (fun t => t == 117 || t == 164) ck_Tok_step ?_
        simp only [cp_vc, cp_vs, cp_jm, cp_ent_en, cp_en_int, cp_en_ref, cp_en_ret, cp_en_long, cp_en_nil, cp_s1_at, cp_s2_at, cp_nl_int, cp_nl_ref, cp_nl_long, cp_nl_none, cp_pop_0, cp_pop_s, reduceIte, if_true, if_false, Bool.false_eq_true, Bool.true_eq_false, false_implies, implies_true, forall_const, true_implies, true_and, and_true, and_self, true_or, or_true, false_or, or_false, Value.category, List.length_cons, List.length_nil, Option.toList_some, Option.toList_none, List.cons_append, List.nil_append, List.append_nil, Prod.mk.injEq, Nat.add_zero, Nat.zero_add, Nat.reduceAdd, Nat.reduceSub, Nat.reduceEqDiff, Nat.reduceLeDiff, Nat.reduceLT, Nat.le_refl, beq_self_eq_true, Nat.reduceBEq, ne_eq, not_true_eq_false, not_false_eq_true, Int32.reduceAdd, Int32.reduceSub, Int32.reduceMul, Int32.reduceLE, Int32.reduceLT, Int32.reduceToNatClampNeg, b01_0, b01_1, ne_2_0, ne_3_0, ne_4_0, ne_5_0, ne_6_0, ne_m1_0, ne_m2_0, b01_01, b01_n, lt_m2, lt_m1, le_m2, le_m1, Classical.not_not, Bool.or_false, Bool.false_or, Bool.true_or, Bool.or_true, j_Tok_step_0, b_Tok_step_0, j_Tok_step_8, b_Tok_step_8, j_Tok_step_46, b_Tok_step_46, j_Tok_step_73, b_Tok_step_73, j_Tok_step_95, b_Tok_step_95, j_Tok_step_146, b_Tok_step_146, j_Tok_step_150, b_Tok_step_150, j_Tok_step_151, b_Tok_step_151, an_0, an_1, an_3, an_4, cl_0, cl_1, cl_3, cl_32, cl_4, cl_44, cl_59, ne_0_1, ne_0_3, ne_0_4, ne_1_0, ne_1_3, ne_1_4, ne_3_0, ne_3_1, ne_3_4, ne_4_0, ne_4_1, ne_4_3, pp_13_0, sh_13, vi_0, vi_1, vi_3, vi_32, vi_4, vi_44, vi_59, l0, h3M1, pp_13_0, sh_1, vin (show ta T n p < 900 by omega) (by omega), ncl (show ta T n p < 1000 by omega), t1]
        refine c_Tok_isDigit (d := d + 1) t2 ?_
        simp only [cp_kk, cp_vc, cp_vs, cp_jm, cp_ent_en, cp_en_int, cp_en_ref, cp_en_ret, cp_en_long, cp_en_nil, cp_s1_at, cp_s2_at, cp_nl_int, cp_nl_ref, cp_nl_long, cp_nl_none, cp_pop_0, cp_pop_s, reduceIte, if_true, if_false, Bool.false_eq_true, Bool.true_eq_false, false_implies, implies_true, forall_const, true_implies, true_and, and_true, and_self, true_or, or_true, false_or, or_false, Value.category, List.length_cons, List.length_nil, Option.toList_some, Option.toList_none, List.cons_append, List.nil_append, List.append_nil, Prod.mk.injEq, Nat.add_zero, Nat.zero_add, Nat.reduceAdd, Nat.reduceSub, Nat.reduceEqDiff, Nat.reduceLeDiff, Nat.reduceLT, Nat.le_refl, beq_self_eq_true, Nat.reduceBEq, ne_eq, not_true_eq_false, not_false_eq_true, Int32.reduceAdd, Int32.reduceSub, Int32.reduceMul, Int32.reduceLE, Int32.reduceLT, Int32.reduceToNatClampNeg, b01_0, b01_1, ne_2_0, ne_3_0, ne_4_0, ne_5_0, ne_6_0, ne_m1_0, ne_m2_0, b01_01, b01_n, lt_m2, lt_m1, le_m2, le_m1, Classical.not_not, Bool.or_false, Bool.false_or, Bool.true_or, Bool.or_true, j_Tok_step_0, b_Tok_step_0, j_Tok_step_8, b_Tok_step_8, j_Tok_step_46, b_Tok_step_46, j_Tok_step_73, b_Tok_step_73, j_Tok_step_95, b_Tok_step_95, j_Tok_step_146, b_Tok_step_146, j_Tok_step_150, b_Tok_step_150, j_Tok_step_151, b_Tok_step_151, an_0, an_1, an_3, an_4, cl_0, cl_1, cl_3, cl_32, cl_4, cl_44, cl_59, ne_0_1, ne_0_3, ne_0_4, ne_1_0, ne_1_3, ne_1_4, ne_3_0, ne_3_1, ne_3_4, ne_4_0, ne_4_1, ne_4_3, pp_13_0, sh_13, vi_0, vi_1, vi_3, vi_32, vi_4, vi_44, vi_59, l0]
        refine ⟨fun q2 => ?_, fun q2 => ?_⟩
        · have ee : te T n p = ta T n p + 1 := by rw [te, tea, if_neg (by omega), if_neg q1, if_neg q2]
          have es : ts T n p = if T (ta T n p) = 59 ∨ T (ta T n p) = 44 then T (ta T n p) else 1 := by rw [ts, tsa, if_neg (by omega), if_neg q1, if_neg q2]
          have e59 : (b8 (T (ta T n p)) = 59) = (T (ta T n p) = 59) := b8_eq (e := 59) t2 (by omega)
          have e44 : (b8 (T (ta T n p)) = 44) = (T (ta T n p) = 44) := b8_eq (e := 44) t2 (by omega)
          have last : ∀ v : Nat, v = srt (ts T n p) → RW g false (d + 3) 0 0 m_Tok_step 0 0 164 L [] SH (cp_u (cp_u (cp_u M 13 2 (nI (ta T n p))) 13 4 (nI v)) 13 2 (nI (ta T n p + 1))) J (PP t u r 1) Q := by
            intro v hv
            refine fin L _ (kF_u (kF_u hM1 _ (by omega)) _ (by omega)) ⟨?_, ?_, ?_, ?_⟩
            · simp [cp_u_at, h1M]
            · simp [cp_u_at, ee]
            · simp [cp_u_at, h3]
            · simp [cp_u_at, hv]
          have l3 := last 3
          have l4 := last 4
          have h3b : ∀ v, cp_u (cp_u M 13 2 (nI (ta T n p))) 13 4 v 13 3 = nI (ta T n p) := fun v => by simp [cp_u_at, h3]
          refine cp_run 60 (fun t => t == 164) ck_Tok_step ?_
          simp only [cp_vc, cp_vs, cp_jm, cp_ent_en, cp_en_int, cp_en_ref, cp_en_ret, cp_en_long, cp_en_nil, cp_s1_at, cp_s2_at, cp_nl_int, cp_nl_ref, cp_nl_long, cp_nl_none, cp_pop_0, cp_pop_s, reduceIte, if_true, if_false, Bool.false_eq_true, Bool.true_eq_false, false_implies, implies_true, forall_const, true_implies, true_and, and_true, and_self, true_or, or_true, false_or, or_false, Value.category, List.length_cons, List.length_nil, Option.toList_some, Option.toList_none, List.cons_append, List.nil_append, List.append_nil, Prod.mk.injEq, Nat.add_zero, Nat.zero_add, Nat.reduceAdd, Nat.reduceSub, Nat.reduceEqDiff, Nat.reduceLeDiff, Nat.reduceLT, Nat.le_refl, beq_self_eq_true, Nat.reduceBEq, ne_eq, not_true_eq_false, not_false_eq_true, Int32.reduceAdd, Int32.reduceSub, Int32.reduceMul, Int32.reduceLE, Int32.reduceLT, Int32.reduceToNatClampNeg, b01_0, b01_1, ne_2_0, ne_3_0, ne_4_0, ne_5_0, ne_6_0, ne_m1_0, ne_m2_0, b01_01, b01_n, lt_m2, lt_m1, le_m2, le_m1, Classical.not_not, j_Tok_step_0, b_Tok_step_0, j_Tok_step_8, b_Tok_step_8, j_Tok_step_46, b_Tok_step_46, j_Tok_step_73, b_Tok_step_73, j_Tok_step_95, b_Tok_step_95, j_Tok_step_117, b_Tok_step_117, j_Tok_step_146, b_Tok_step_146, j_Tok_step_150, b_Tok_step_150, j_Tok_step_151, b_Tok_step_151, an_0, an_1, an_3, an_4, cl_0, cl_1, cl_3, cl_32, cl_4, cl_44, cl_59, ne_0_1, ne_0_3, ne_0_4, ne_1_0, ne_1_3, ne_1_4, ne_3_0, ne_3_1, ne_3_4, ne_4_0, ne_4_1, ne_4_3, pp_13_0, sh_13, vi_0, vi_1, vi_3, vi_32, vi_4, vi_44, vi_59, l0, h3M1, h3b, pp_13_0, sh_1, vin (show ta T n p < 900 by omega) (by omega), ncl (show ta T n p < 1000 by omega), t1, e59, e44, nI_1]
          refine ⟨fun z => ?_, fun z => ⟨fun z2 => ?_, fun z2 => ?_⟩⟩
          · exact l3 (by rw [es, if_pos (Or.inl z), z]; rfl)
          · exact l4 (by rw [es, if_neg (fun y => y.elim z z2)]; rfl)
          · exact l3 (by rw [es, if_pos (Or.inr z2), z2]; rfl)
        · have ee : te T n p = wh (fun k => isDg (T k)) (n - ta T n p) (ta T n p) := by rw [te, tea, if_neg (by omega), if_neg q1, if_pos q2]
          have es : ts T n p = if te T n p - ta T n p ≤ 3 then 3 else 1 := by rw [ts, tsa, if_neg (by omega), if_neg q1, if_pos q2]; rfl
          refine c_Tok_digits (kF_T hM1 hT) h1M1 (by omega) h3M1 h2M1 ?_
          intro M2 e he k1 k2 k3 k4
          rw [← ee] at he
          subst he
          simp only [cp_kk, cp_vc, cp_vs, cp_jm, cp_ent_en, cp_en_int, cp_en_ref, cp_en_ret, cp_en_long, cp_en_nil, cp_s1_at, cp_s2_at, cp_nl_int, cp_nl_ref, cp_nl_long, cp_nl_none, cp_pop_0, cp_pop_s, reduceIte, if_true, if_false, Bool.false_eq_true, Bool.true_eq_false, false_implies, implies_true, forall_const, true_implies, true_and, and_true, and_self, true_or, or_true, false_or, or_false, Value.category, List.length_cons, List.length_nil, Option.toList_some, Option.toList_none, List.cons_append, List.nil_append, List.append_nil, Prod.mk.injEq, Nat.add_zero, Nat.zero_add, Nat.reduceAdd, Nat.reduceSub, Nat.reduceEqDiff, Nat.reduceLeDiff, Nat.reduceLT, Nat.le_refl, beq_self_eq_true, Nat.reduceBEq, ne_eq, not_true_eq_false, not_false_eq_true, Int32.reduceAdd, Int32.reduceSub, Int32.reduceMul, Int32.reduceLE, Int32.reduceLT, Int32.reduceToNatClampNeg, b01_0, b01_1, ne_2_0, ne_3_0, ne_4_0, ne_5_0, ne_6_0, ne_m1_0, ne_m2_0, b01_01, b01_n, lt_m2, lt_m1, le_m2, le_m1, Classical.not_not, Bool.or_false, Bool.false_or, Bool.true_or, Bool.or_true, j_Tok_step_0, b_Tok_step_0, j_Tok_step_8, b_Tok_step_8, j_Tok_step_46, b_Tok_step_46, j_Tok_step_73, b_Tok_step_73, j_Tok_step_95, b_Tok_step_95, j_Tok_step_146, b_Tok_step_146, j_Tok_step_150, b_Tok_step_150, j_Tok_step_151, b_Tok_step_151, an_0, an_1, an_3, an_4, cl_0, cl_1, cl_3, cl_32, cl_4, cl_44, cl_59, ne_0_1, ne_0_3, ne_0_4, ne_1_0, ne_1_3, ne_1_4, ne_3_0, ne_3_1, ne_3_4, ne_4_0, ne_4_1, ne_4_3, pp_13_0, sh_13, vi_0, vi_1, vi_3, vi_32, vi_4, vi_44, vi_59]
          refine fin L M2 (kF_tr hM1 k1) ⟨by rw [k1 13 1 (by omega)]; exact h1M1, k3, k2, ?_⟩
          rw [k4, es]
          split <;> rfl
      · have ee : te T n p = wh (fun k => isSm (T k)) (n - ta T n p) (ta T n p) := by rw [te, tea, if_neg (by omega), if_pos q1]
        have es : ts T n p = if te T n p - ta T n p ≤ 8 then 2 else 1 := by rw [ts, tsa, if_neg (by omega), if_pos q1]; rfl
        refine c_Tok_letters (kF_T hM1 hT) h1M1 (by omega) h3M1 h2M1 ?_
        intro M2 e he k1 k2 k3 k4
        rw [← ee] at he
        subst he
        simp only [cp_kk, cp_vc, cp_vs, cp_jm, cp_ent_en, cp_en_int, cp_en_ref, cp_en_ret, cp_en_long, cp_en_nil, cp_s1_at, cp_s2_at, cp_nl_int, cp_nl_ref, cp_nl_long, cp_nl_none, cp_pop_0, cp_pop_s, reduceIte, if_true, if_false, Bool.false_eq_true, Bool.true_eq_false, false_implies, implies_true, forall_const, true_implies, true_and, and_true, and_self, true_or, or_true, false_or, or_false, Value.category, List.length_cons, List.length_nil, Option.toList_some, Option.toList_none, List.cons_append, List.nil_append, List.append_nil, Prod.mk.injEq, Nat.add_zero, Nat.zero_add, Nat.reduceAdd, Nat.reduceSub, Nat.reduceEqDiff, Nat.reduceLeDiff, Nat.reduceLT, Nat.le_refl, beq_self_eq_true, Nat.reduceBEq, ne_eq, not_true_eq_false, not_false_eq_true, Int32.reduceAdd, Int32.reduceSub, Int32.reduceMul, Int32.reduceLE, Int32.reduceLT, Int32.reduceToNatClampNeg, b01_0, b01_1, ne_2_0, ne_3_0, ne_4_0, ne_5_0, ne_6_0, ne_m1_0, ne_m2_0, b01_01, b01_n, lt_m2, lt_m1, le_m2, le_m1, Classical.not_not, Bool.or_false, Bool.false_or, Bool.true_or, Bool.or_true, j_Tok_step_0, b_Tok_step_0, j_Tok_step_8, b_Tok_step_8, j_Tok_step_46, b_Tok_step_46, j_Tok_step_73, b_Tok_step_73, j_Tok_step_117, b_Tok_step_117, j_Tok_step_146, b_Tok_step_146, j_Tok_step_150, b_Tok_step_150, j_Tok_step_151, b_Tok_step_151, an_0, an_1, an_3, an_4, cl_0, cl_1, cl_3, cl_32, cl_4, cl_44, cl_59, ne_0_1, ne_0_3, ne_0_4, ne_1_0, ne_1_3, ne_1_4, ne_3_0, ne_3_1, ne_3_4, ne_4_0, ne_4_1, ne_4_3, pp_13_0, sh_13, vi_0, vi_1, vi_3, vi_32, vi_4, vi_44, vi_59]
        refine fin L M2 (kF_tr hM1 k1) ⟨by rw [k1 13 1 (by omega)]; exact h1M1, k3, k2, ?_⟩
        rw [k4, es]
        split <;> rfl
    · have c1 : ¬ nI (ta T n p) < nI n := nI_nlt (by omega) (by omega)
      have ee : te T n p = ta T n p := by rw [te, tea, if_pos (by omega)]
      have es : ts T n p = 0 := by rw [ts, tsa, if_pos (by omega)]
      refine cp_run 60 (fun _ => false) ck_Tok_step ?_
      simp only [cp_vc, cp_vs, cp_jm, cp_ent_en, cp_en_int, cp_en_ref, cp_en_ret, cp_en_long, cp_en_nil, cp_s1_at, cp_s2_at, cp_nl_int, cp_nl_ref, cp_nl_long, cp_nl_none, cp_pop_0, cp_pop_s, reduceIte, if_true, if_false, Bool.false_eq_true, Bool.true_eq_false, false_implies, implies_true, forall_const, true_implies, true_and, and_true, and_self, true_or, or_true, false_or, or_false, Value.category, List.length_cons, List.length_nil, Option.toList_some, Option.toList_none, List.cons_append, List.nil_append, List.append_nil, Prod.mk.injEq, Nat.add_zero, Nat.zero_add, Nat.reduceAdd, Nat.reduceSub, Nat.reduceEqDiff, Nat.reduceLeDiff, Nat.reduceLT, Nat.le_refl, beq_self_eq_true, Nat.reduceBEq, ne_eq, not_true_eq_false, not_false_eq_true, Int32.reduceAdd, Int32.reduceSub, Int32.reduceMul, Int32.reduceLE, Int32.reduceLT, Int32.reduceToNatClampNeg, b01_0, b01_1, ne_2_0, ne_3_0, ne_4_0, ne_5_0, ne_6_0, ne_m1_0, ne_m2_0, b01_01, b01_n, lt_m2, lt_m1, le_m2, le_m1, Classical.not_not, j_Tok_step_0, b_Tok_step_0, j_Tok_step_8, b_Tok_step_8, j_Tok_step_46, b_Tok_step_46, j_Tok_step_73, b_Tok_step_73, j_Tok_step_95, b_Tok_step_95, j_Tok_step_117, b_Tok_step_117, j_Tok_step_146, b_Tok_step_146, j_Tok_step_150, b_Tok_step_150, j_Tok_step_151, b_Tok_step_151, j_Tok_step_164, b_Tok_step_164, an_0, an_1, an_3, an_4, cl_0, cl_1, cl_3, cl_32, cl_4, cl_44, cl_59, ne_0_1, ne_0_3, ne_0_4, ne_1_0, ne_1_3, ne_1_4, ne_3_0, ne_3_1, ne_3_4, ne_4_0, ne_4_1, ne_4_3, pp_13_0, sh_13, vi_0, vi_1, vi_3, vi_32, vi_4, vi_44, vi_59, l0, h3, cp_u_at, h1M, c1]
      refine h _ (kF_u hM1 _ (by omega)) ⟨?_, ?_, ?_, ?_⟩
      · simp [cp_u_at, h1M]
      · simp [cp_u_at, ee]
      · simp [cp_u_at, h3]
      · rw [es]
        simp [cp_u_at, srt, nI_0]
  · simp [cp_u_at]
  · simp [cp_ent_en, cp_en_ref]
end Tok1
