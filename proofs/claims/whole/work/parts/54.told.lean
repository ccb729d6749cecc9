section Told1
variable {g : cp_G} {d : Nat} {sh : cp_H} {I : cp_I} {J : cp_J} {P : cp_P} {Q : cp_QT} {t u r x c : Nat}
/-! the two cells of what is told -/
def tk (c : Nat) : Prop := c = 2 ∨ c = 16
theorem sT0 (h : tk c) : cp_sh SH c = (11, 17) := by rcases h with rfl | rfl <;> rfl
theorem sT1 (h : tk c) : cp_sh SH (c + 1) = (2, 6) := by rcases h with rfl | rfl <;> rfl
theorem sT2 (h : tk c) : cp_sh SH (c + 2) = (0, 6) := by rcases h with rfl | rfl <;> rfl
theorem sT3 (h : tk c) : cp_sh SH (c + 3) = (0, 6) := by rcases h with rfl | rfl <;> rfl
theorem sT4 (h : tk c) : cp_sh SH (c + 4) = (0, 36) := by rcases h with rfl | rfl <;> rfl
theorem sT5 (h : tk c) : cp_sh SH (c + 5) = (0, 4) := by rcases h with rfl | rfl <;> rfl
theorem sT6 (h : tk c) : cp_sh SH (c + 6) = (0, 4) := by rcases h with rfl | rfl <;> rfl
theorem sT7 (h : tk c) : cp_sh SH (c + 7) = (0, 4) := by rcases h with rfl | rfl <;> rfl
theorem sT8 (h : tk c) : cp_sh SH (c + 8) = (0, 4) := by rcases h with rfl | rfl <;> rfl
theorem sT9 (h : tk c) : cp_sh SH (c + 9) = (0, 4) := by rcases h with rfl | rfl <;> rfl
theorem pT1 (h : tk c) : PP t u r x c 8 = .ref (c + 1) := by rcases h with rfl | rfl <;> rfl
theorem pT2 (h : tk c) : PP t u r x c 9 = .ref (c + 2) := by rcases h with rfl | rfl <;> rfl
theorem pT3 (h : tk c) : PP t u r x c 10 = .ref (c + 3) := by rcases h with rfl | rfl <;> rfl
theorem pT4 (h : tk c) : PP t u r x c 11 = .ref (c + 4) := by rcases h with rfl | rfl <;> rfl
theorem pT5 (h : tk c) : PP t u r x c 12 = .ref (c + 5) := by rcases h with rfl | rfl <;> rfl
theorem pT6 (h : tk c) : PP t u r x c 13 = .ref (c + 6) := by rcases h with rfl | rfl <;> rfl
theorem pT7 (h : tk c) : PP t u r x c 14 = .ref (c + 7) := by rcases h with rfl | rfl <;> rfl
theorem pT8 (h : tk c) : PP t u r x c 15 = .ref (c + 8) := by rcases h with rfl | rfl <;> rfl
theorem pT9 (h : tk c) : PP t u r x c 16 = .ref (c + 9) := by rcases h with rfl | rfl <;> rfl
/-! bits of any size -/
theorem and_g (a b : Nat) : nI a &&& nI b = nI (a &&& b) := by
  apply Int32.toBitVec_inj.1
  simp [nI, BitVec.ofNat_and]
theorem or_g (a b : Nat) : nI a ||| nI b = nI (a ||| b) := by
  apply Int32.toBitVec_inj.1
  simp [nI, BitVec.ofNat_or]
theorem xor_g (a b : Nat) : nI a ^^^ nI b = nI (a ^^^ b) := by
  apply Int32.toBitVec_inj.1
  simp [nI, BitVec.ofNat_xor]
theorem sh_g {k : Nat} (hk : k < 32) : (1 : Int32) <<< (nI k &&& 31) = nI (2 ^ k) := by
  have key : ∀ k : Nat, k < 32 → (1 : Int32) <<< (nI k &&& 31) = nI (2 ^ k) := by decide +kernel
  exact key k hk
theorem and_p {m k : Nat} : m &&& 2 ^ k = if m.testBit k = true then 2 ^ k else 0 := by
  refine Nat.eq_of_testBit_eq (fun i => ?_)
  rw [Nat.testBit_and, Nat.testBit_two_pow]
  by_cases h : m.testBit k = true
  · rw [if_pos h, Nat.testBit_two_pow]
    by_cases e : k = i
    · subst e
      simp [h]
    · simp [e]
  · rw [if_neg h]
    by_cases e : k = i
    · subst e
      simp [h]
    · simp [e]
theorem bit_g {m k : Nat} (hk : k < 31) : (nI m &&& nI (2 ^ k) = 0) = (m.testBit k = false) := by
  rw [and_g, and_p]
  have hp : 2 ^ k < 2 ^ 31 := Nat.pow_lt_pow_right (by omega) hk
  have h0 : 0 < 2 ^ k := Nat.pow_pos (by omega)
  by_cases h : m.testBit k = true
  · have := nI_ne0 h0 hp
    simp [h, this]
  · simp only [h, if_false]
    simp [nI_0]
/-! pairs as bits -/
def pbk (a b : Nat) : Nat := min a b * 6 + max a b
theorem pbk_lt {a b : Nat} (ha : a < 6) (hb : b < 6) (h : a ≠ b) : pbk a b < 30 := by
  unfold pbk
  omega
theorem pbk_sym (a b : Nat) : pbk a b = pbk b a := by
  unfold pbk
  rw [Nat.min_comm, Nat.max_comm]
theorem c_CP_pairBit {a b : Nat} (ha : a < 6) (hb : b < 6) (hab : a ≠ b) (h : Q (some (.int (nI (2 ^ pbk a b)))) sh I J P) : MW g false (d + 1) 0 0 m_CP_pairBit [.int (nI a), .int (nI b)] sh I J P Q := by
  have e1 : (if nI b < nI a then nI b else nI a) = nI (min a b) := by
    simp only [ltN (show b < 1000 by omega) (show a < 1000 by omega)]
    split
    · rw [Nat.min_eq_right (by omega)]
    · rw [Nat.min_eq_left (by omega)]
  have e2 : (if nI a < nI b then nI b else nI a) = nI (max a b) := by
    simp only [ltN (show a < 1000 by omega) (show b < 1000 by omega)]
    split
    · rw [Nat.max_eq_right (by omega)]
    · rw [Nat.max_eq_left (by omega)]
  have e3 : nI (min a b) * 6 + nI (max a b) = nI (pbk a b) := by
    rw [show (6 : Int32) = nI 6 from rfl, pk_mul, nI_add]
    rfl
  have h3 := pbk_lt ha hb hab
  refine MW.of ok_CP_pairBit (Nat.le_of_ble_eq_true rfl) ?_
  refine cp_run 30 (fun _ => false) ck_CP_pairBit ?_
  simp only [cp_vc, cp_vs, cp_jm, cp_ent_en, cp_en_int, cp_en_ref, cp_en_ret, cp_en_long, cp_en_nil, cp_s1_at, cp_s2_at, cp_nl_int, cp_nl_ref, cp_nl_long, cp_nl_none, cp_pop_0, cp_pop_s, reduceIte, if_true, if_false, Bool.false_eq_true, Bool.true_eq_false, false_implies, implies_true, forall_const, true_implies, true_and, and_true, and_self, true_or, or_true, false_or, or_false, Value.category, List.length_cons, List.length_nil, Option.toList_some, Option.toList_none, List.cons_append, List.nil_append, List.append_nil, Prod.mk.injEq, Nat.add_zero, Nat.zero_add, Nat.reduceAdd, Nat.reduceSub, Nat.reduceEqDiff, Nat.reduceLeDiff, Nat.reduceLT, Nat.le_refl, beq_self_eq_true, Nat.reduceBEq, ne_eq, not_true_eq_false, not_false_eq_true, Int32.reduceAdd, Int32.reduceSub, Int32.reduceMul, Int32.reduceLE, Int32.reduceLT, Int32.reduceToNatClampNeg, b01_0, b01_1, ne_2_0, ne_3_0, ne_4_0, ne_5_0, ne_6_0, ne_m1_0, ne_m2_0, b01_01, b01_n, lt_m2, lt_m1, le_m2, le_m1, Classical.not_not, j_CP_pairBit_0, b_CP_pairBit_0, an_0, an_1, an_6, cl_1, cl_6, ne_0_1, ne_0_6, ne_1_0, ne_1_6, ne_6_0, ne_6_1, vi_1, vi_6, e1, e2, e3, sh_g (show pbk a b < 32 by omega)]
  exact h
/-! Told -/
theorem c_Told_all {n : Nat} (hc : tk c) (hn6 : n ≤ 6) (hn : I c 4 = nI n) (h : Q (some (.int (nI (2 ^ n - 1)))) SH I J (PP t u r x)) : MW g false (d + 1) 0 0 m_Told_all [.ref c] SH I J (PP t u r x) Q := by
  refine MW.of ok_Told_all (Nat.le_of_ble_eq_true rfl) ?_
  refine cp_run 20 (fun _ => false) ck_Told_all ?_
  simp only [cp_vc, cp_vs, cp_jm, cp_ent_en, cp_en_int, cp_en_ref, cp_en_ret, cp_en_long, cp_en_nil, cp_s1_at, cp_s2_at, cp_nl_int, cp_nl_ref, cp_nl_long, cp_nl_none, cp_pop_0, cp_pop_s, reduceIte, if_true, if_false, Bool.false_eq_true, Bool.true_eq_false, false_implies, implies_true, forall_const, true_implies, true_and, and_true, and_self, true_or, or_true, false_or, or_false, Value.category, List.length_cons, List.length_nil, Option.toList_some, Option.toList_none, List.cons_append, List.nil_append, List.append_nil, Prod.mk.injEq, Nat.add_zero, Nat.zero_add, Nat.reduceAdd, Nat.reduceSub, Nat.reduceEqDiff, Nat.reduceLeDiff, Nat.reduceLT, Nat.le_refl, beq_self_eq_true, Nat.reduceBEq, ne_eq, not_true_eq_false, not_false_eq_true, Int32.reduceAdd, Int32.reduceSub, Int32.reduceMul, Int32.reduceLE, Int32.reduceLT, Int32.reduceToNatClampNeg, b01_0, b01_1, ne_2_0, ne_3_0, ne_4_0, ne_5_0, ne_6_0, ne_m1_0, ne_m2_0, b01_01, b01_n, lt_m2, lt_m1, le_m2, le_m1, Classical.not_not, j_Told_all_0, b_Told_all_0, an_0, an_1, cl_1, ne_0_1, ne_1_0, vi_1, sT0 hc, sT1 hc, sT2 hc, sT3 hc, sT4 hc, sT5 hc, sT6 hc, sT7 hc, sT8 hc, sT9 hc, pT1 hc, pT2 hc, pT3 hc, pT4 hc, pT5 hc, pT6 hc, pT7 hc, pT8 hc, pT9 hc, hn, all_nI hn6]
  exact h
theorem c_Told_tieAtFirst {a b : Nat} (hc : tk c) (ha : a < 6) (hb : b < 6) (h : Q (some (.int (I (c + 4) (6 * a + b)))) SH I J (PP t u r x)) : MW g false (d + 1) 0 0 m_Told_tieAtFirst [.ref c, .int (nI a), .int (nI b)] SH I J (PP t u r x) Q := by
  have e : nI a * 6 + nI b = nI (6 * a + b) := by
    rw [show (6 : Int32) = nI 6 from rfl, pk_mul, nI_add, Nat.mul_comm]
  refine MW.of ok_Told_tieAtFirst (Nat.le_of_ble_eq_true rfl) ?_
  refine cp_run 20 (fun _ => false) ck_Told_tieAtFirst ?_
  simp only [cp_vc, cp_vs, cp_jm, cp_ent_en, cp_en_int, cp_en_ref, cp_en_ret, cp_en_long, cp_en_nil, cp_s1_at, cp_s2_at, cp_nl_int, cp_nl_ref, cp_nl_long, cp_nl_none, cp_pop_0, cp_pop_s, reduceIte, if_true, if_false, Bool.false_eq_true, Bool.true_eq_false, false_implies, implies_true, forall_const, true_implies, true_and, and_true, and_self, true_or, or_true, false_or, or_false, Value.category, List.length_cons, List.length_nil, Option.toList_some, Option.toList_none, List.cons_append, List.nil_append, List.append_nil, Prod.mk.injEq, Nat.add_zero, Nat.zero_add, Nat.reduceAdd, Nat.reduceSub, Nat.reduceEqDiff, Nat.reduceLeDiff, Nat.reduceLT, Nat.le_refl, beq_self_eq_true, Nat.reduceBEq, ne_eq, not_true_eq_false, not_false_eq_true, Int32.reduceAdd, Int32.reduceSub, Int32.reduceMul, Int32.reduceLE, Int32.reduceLT, Int32.reduceToNatClampNeg, b01_0, b01_1, ne_2_0, ne_3_0, ne_4_0, ne_5_0, ne_6_0, ne_m1_0, ne_m2_0, b01_01, b01_n, lt_m2, lt_m1, le_m2, le_m1, Classical.not_not, j_Told_tieAtFirst_0, b_Told_tieAtFirst_0, an_0, an_1, an_6, cl_6, ne_0_1, ne_0_6, ne_1_0, ne_1_6, ne_6_0, ne_6_1, vi_6, sT0 hc, sT1 hc, sT2 hc, sT3 hc, sT4 hc, sT5 hc, sT6 hc, sT7 hc, sT8 hc, sT9 hc, pT1 hc, pT2 hc, pT3 hc, pT4 hc, pT5 hc, pT6 hc, pT7 hc, pT8 hc, pT9 hc, e, vin (show 6 * a + b < 36 by omega) (by omega), ncl (show 6 * a + b < 1000 by omega)]
  exact h
/-- the need of a bather by what is told -/
def cn (I : cp_I) (c b : Nat) : Int32 := sp_need (I (c + 2) b) (I (c + 3) b)
theorem need_max {e : Nat} (he : e ≤ 99) : (if (0 : Int32) < nI e - 5 then nI e - 5 else 0) = if 5 < nI e then nI e - 5 else 0 := by
  have key : ∀ e : Nat, e < 100 → (if (0 : Int32) < nI e - 5 then nI e - 5 else 0) = if 5 < nI e then nI e - 5 else 0 := by decide +kernel
  exact key e (by omega)
theorem c_Told_needOf {b : Nat} (hc : tk c) (hb : b < 6) (he : ∃ e, e ≤ 99 ∧ I (c + 3) b = nI e) (h : Q (some (.int (cn I c b))) SH I J (PP t u r x)) : MW g false (d + 1) 0 0 m_Told_needOf [.ref c, .int (nI b)] SH I J (PP t u r x) Q := by
  obtain ⟨e, he, e3⟩ := he
  unfold cn sp_need at h
  refine MW.of ok_Told_needOf (Nat.le_of_ble_eq_true rfl) ?_
  refine cp_run 40 (fun _ => false) ck_Told_needOf ?_
  simp only [cp_vc, cp_vs, cp_jm, cp_ent_en, cp_en_int, cp_en_ref, cp_en_ret, cp_en_long, cp_en_nil, cp_s1_at, cp_s2_at, cp_nl_int, cp_nl_ref, cp_nl_long, cp_nl_none, cp_pop_0, cp_pop_s, reduceIte, if_true, if_false, Bool.false_eq_true, Bool.true_eq_false, false_implies, implies_true, forall_const, true_implies, true_and, and_true, and_self, true_or, or_true, false_or, or_false, Value.category, List.length_cons, List.length_nil, Option.toList_some, Option.toList_none, List.cons_append, List.nil_append, List.append_nil, Prod.mk.injEq, Nat.add_zero, Nat.zero_add, Nat.reduceAdd, Nat.reduceSub, Nat.reduceEqDiff, Nat.reduceLeDiff, Nat.reduceLT, Nat.le_refl, beq_self_eq_true, Nat.reduceBEq, ne_eq, not_true_eq_false, not_false_eq_true, Int32.reduceAdd, Int32.reduceSub, Int32.reduceMul, Int32.reduceLE, Int32.reduceLT, Int32.reduceToNatClampNeg, b01_0, b01_1, ne_2_0, ne_3_0, ne_4_0, ne_5_0, ne_6_0, ne_m1_0, ne_m2_0, b01_01, b01_n, lt_m2, lt_m1, le_m2, le_m1, Classical.not_not, j_Told_needOf_0, b_Told_needOf_0, j_Told_needOf_19, b_Told_needOf_19, j_Told_needOf_44, b_Told_needOf_44, j_Told_needOf_50, b_Told_needOf_50, an_0, an_1, an_2, an_5, cl_0, cl_1, cl_2, cl_5, ne_0_1, ne_0_2, ne_0_5, ne_1_0, ne_1_2, ne_1_5, ne_2_0, ne_2_1, ne_2_5, ne_5_0, ne_5_1, ne_5_2, vi_0, vi_1, vi_2, vi_5, sT0 hc, sT1 hc, sT2 hc, sT3 hc, sT4 hc, sT5 hc, sT6 hc, sT7 hc, sT8 hc, sT9 hc, pT1 hc, pT2 hc, pT3 hc, pT4 hc, pT5 hc, pT6 hc, pT7 hc, pT8 hc, pT9 hc, vin (show b < 6 by omega) (by omega), ncl (show b < 1000 by omega)]
  refine ⟨fun c1 => ⟨fun c2 => ?_, fun c2 => ?_⟩, fun c1 => ?_⟩
  · rw [if_neg c1, if_neg c2] at h
    exact h
  · rw [if_neg c1, if_pos c2] at h
    rw [e3] at h ⊢
    rw [need_max he]
    exact h
  · rw [if_pos c1] at h
    exact h
theorem c_Told_tie {a b : Nat} {v : Int32} (hc : tk c) (ha : a < 6) (hb : b < 6) (hab : a ≠ b) (h : Q none SH (cp_u (cp_u (cp_u I (c + 4) (6 * a + b) v) (c + 4) (6 * b + a) v) c 5 (I c 5 ||| nI (2 ^ pbk a b))) J (PP t u r x)) : MW g false (d + 2) 0 0 m_Told_tie [.ref c, .int (nI a), .int (nI b), .int v] SH I J (PP t u r x) Q := by
  have e : ∀ a b : Nat, nI a * 6 + nI b = nI (6 * a + b) := by
    intro a b
    rw [show (6 : Int32) = nI 6 from rfl, pk_mul, nI_add, Nat.mul_comm]
  refine MW.of ok_Told_tie (Nat.le_of_ble_eq_true rfl) ?_
  refine cp_run 40 (fun _ => false) ck_Told_tie ?_
  simp only [cp_vc, cp_vs, cp_jm, cp_ent_en, cp_en_int, cp_en_ref, cp_en_ret, cp_en_long, cp_en_nil, cp_s1_at, cp_s2_at, cp_nl_int, cp_nl_ref, cp_nl_long, cp_nl_none, cp_pop_0, cp_pop_s, reduceIte, if_true, if_false, Bool.false_eq_true, Bool.true_eq_false, false_implies, implies_true, forall_const, true_implies, true_and, and_true, and_self, true_or, or_true, false_or, or_false, Value.category, List.length_cons, List.length_nil, Option.toList_some, Option.toList_none, List.cons_append, List.nil_append, List.append_nil, Prod.mk.injEq, Nat.add_zero, Nat.zero_add, Nat.reduceAdd, Nat.reduceSub, Nat.reduceEqDiff, Nat.reduceLeDiff, Nat.reduceLT, Nat.le_refl, beq_self_eq_true, Nat.reduceBEq, ne_eq, not_true_eq_false, not_false_eq_true, Int32.reduceAdd, Int32.reduceSub, Int32.reduceMul, Int32.reduceLE, Int32.reduceLT, Int32.reduceToNatClampNeg, b01_0, b01_1, ne_2_0, ne_3_0, ne_4_0, ne_5_0, ne_6_0, ne_m1_0, ne_m2_0, b01_01, b01_n, lt_m2, lt_m1, le_m2, le_m1, Classical.not_not, j_Told_tie_0, b_Told_tie_0, an_0, an_1, an_6, cl_6, ne_0_1, ne_0_6, ne_1_0, ne_1_6, ne_6_0, ne_6_1, vi_6, sT0 hc, sT1 hc, sT2 hc, sT3 hc, sT4 hc, sT5 hc, sT6 hc, sT7 hc, sT8 hc, sT9 hc, pT1 hc, pT2 hc, pT3 hc, pT4 hc, pT5 hc, pT6 hc, pT7 hc, pT8 hc, pT9 hc, e, vin (show 6 * a + b < 36 by omega) (by omega), ncl (show 6 * a + b < 1000 by omega), vin (show 6 * b + a < 36 by omega) (by omega), ncl (show 6 * b + a < 1000 by omega)]
  refine c_CP_pairBit ha hb hab ?_
  have n1 : ¬ (c = c + 4) := by omega
  simp only [cp_kk, cp_vc, cp_vs, cp_jm, cp_ent_en, cp_en_int, cp_en_ref, cp_en_ret, cp_en_long, cp_en_nil, cp_s1_at, cp_s2_at, cp_nl_int, cp_nl_ref, cp_nl_long, cp_nl_none, cp_pop_0, cp_pop_s, reduceIte, if_true, if_false, Bool.false_eq_true, Bool.true_eq_false, false_implies, implies_true, forall_const, true_implies, true_and, and_true, and_self, true_or, or_true, false_or, or_false, Value.category, List.length_cons, List.length_nil, Option.toList_some, Option.toList_none, List.cons_append, List.nil_append, List.append_nil, Prod.mk.injEq, Nat.add_zero, Nat.zero_add, Nat.reduceAdd, Nat.reduceSub, Nat.reduceEqDiff, Nat.reduceLeDiff, Nat.reduceLT, Nat.le_refl, beq_self_eq_true, Nat.reduceBEq, ne_eq, not_true_eq_false, not_false_eq_true, Int32.reduceAdd, Int32.reduceSub, Int32.reduceMul, Int32.reduceLE, Int32.reduceLT, Int32.reduceToNatClampNeg, b01_0, b01_1, ne_2_0, ne_3_0, ne_4_0, ne_5_0, ne_6_0, ne_m1_0, ne_m2_0, b01_01, b01_n, lt_m2, lt_m1, le_m2, le_m1, Classical.not_not, Bool.or_false, Bool.false_or, Bool.true_or, Bool.or_true, j_Told_tie_0, b_Told_tie_0, an_0, an_1, an_6, cl_6, ne_0_1, ne_0_6, ne_1_0, ne_1_6, ne_6_0, ne_6_1, vi_6, sT0 hc, sT1 hc, sT2 hc, sT3 hc, sT4 hc, sT5 hc, sT6 hc, sT7 hc, sT8 hc, sT9 hc, pT1 hc, pT2 hc, pT3 hc, pT4 hc, pT5 hc, pT6 hc, pT7 hc, pT8 hc, pT9 hc, cp_u_at, n1, false_and]
  exact h
/-- a text cleared -/
def tcl (I : cp_I) (c k : Nat) : cp_I := fun a j => if a = c ∧ j < 8 then 0 else if a = c + 4 ∧ j < k then 0 else I a j
theorem lp_Told_clear (hc : tk c) (h : Q none SH (tcl I c 36) J (PP t u r x)) : ∀ (m k : Nat) (L : cp_Lo), k + m = 36 → L 0 = some (.ref c) → L 1 = some (.int (nI k)) → RW g false (d + 1) 0 0 m_Told_clear 0 0 42 L [] SH (tcl I c k) J (PP t u r x) Q := by
  intro m
  have q0 : (0 : Nat) < 3 := by omega
  have q1 : ((0, 36) : Nat × Nat) ≠ (0, 0) := by decide
  have q2 : Int32.ofNat 36 = 36 := rfl
  induction m with
  | zero =>
    intro k L hk l0 l1
    have c1 : (36 : Int32) ≤ nI k := nI_le (a := 36) (by omega) (by omega)
    refine cp_run 20 (fun t => t == 42) ck_Told_clear ?_
    simp only [cp_vc, cp_vs, cp_jm, cp_ent_en, cp_en_int, cp_en_ref, cp_en_ret, cp_en_long, cp_en_nil, cp_s1_at, cp_s2_at, cp_nl_int, cp_nl_ref, cp_nl_long, cp_nl_none, cp_pop_0, cp_pop_s, reduceIte, if_true, if_false, Bool.false_eq_true, Bool.true_eq_false, false_implies, implies_true, forall_const, true_implies, true_and, and_true, and_self, true_or, or_true, false_or, or_false, Value.category, List.length_cons, List.length_nil, Option.toList_some, Option.toList_none, List.cons_append, List.nil_append, List.append_nil, Prod.mk.injEq, Nat.add_zero, Nat.zero_add, Nat.reduceAdd, Nat.reduceSub, Nat.reduceEqDiff, Nat.reduceLeDiff, Nat.reduceLT, Nat.le_refl, beq_self_eq_true, Nat.reduceBEq, ne_eq, not_true_eq_false, not_false_eq_true, Int32.reduceAdd, Int32.reduceSub, Int32.reduceMul, Int32.reduceLE, Int32.reduceLT, Int32.reduceToNatClampNeg, b01_0, b01_1, ne_2_0, ne_3_0, ne_4_0, ne_5_0, ne_6_0, ne_m1_0, ne_m2_0, b01_01, b01_n, lt_m2, lt_m1, le_m2, le_m1, Classical.not_not, j_Told_clear_0, b_Told_clear_0, j_Told_clear_42, b_Told_clear_42, j_Told_clear_64, b_Told_clear_64, an_0, an_1, cl_0, ne_0_1, ne_1_0, vi_0, l0, l1, sT0 hc, sT1 hc, sT2 hc, sT3 hc, sT4 hc, sT5 hc, sT6 hc, sT7 hc, sT8 hc, sT9 hc, pT1 hc, pT2 hc, pT3 hc, pT4 hc, pT5 hc, pT6 hc, pT7 hc, pT8 hc, pT9 hc, q0, q1, q2, c1]
    rw [show k = 36 by omega]
    first
    | exact h
    | exact ⟨q1, h⟩
  | succ m ih =>
    intro k L hk l0 l1
    have c1 : ¬ (36 : Int32) ≤ nI k := nI_ge (b := 36) (by omega) (by omega)
    have e : cp_u (tcl I c k) (c + 4) k 0 = tcl I c (k + 1) := by
      funext a j
      unfold cp_u tcl
      by_cases h1 : a = c + 4 ∧ j = k
      · rw [if_pos h1, if_neg (by omega), if_pos (by omega)]
      · rw [if_neg h1]
        by_cases h2 : a = c ∧ j < 8
        · rw [if_pos h2, if_pos h2]
        · rw [if_neg h2, if_neg h2]
          by_cases h3 : a = c + 4 ∧ j < k
          · rw [if_pos h3, if_pos (by omega)]
          · rw [if_neg h3, if_neg (by omega)]
    refine cp_run 20 (fun t => t == 42) ck_Told_clear ?_
    simp only [cp_vc, cp_vs, cp_jm, cp_ent_en, cp_en_int, cp_en_ref, cp_en_ret, cp_en_long, cp_en_nil, cp_s1_at, cp_s2_at, cp_nl_int, cp_nl_ref, cp_nl_long, cp_nl_none, cp_pop_0, cp_pop_s, reduceIte, if_true, if_false, Bool.false_eq_true, Bool.true_eq_false, false_implies, implies_true, forall_const, true_implies, true_and, and_true, and_self, true_or, or_true, false_or, or_false, Value.category, List.length_cons, List.length_nil, Option.toList_some, Option.toList_none, List.cons_append, List.nil_append, List.append_nil, Prod.mk.injEq, Nat.add_zero, Nat.zero_add, Nat.reduceAdd, Nat.reduceSub, Nat.reduceEqDiff, Nat.reduceLeDiff, Nat.reduceLT, Nat.le_refl, beq_self_eq_true, Nat.reduceBEq, ne_eq, not_true_eq_false, not_false_eq_true, Int32.reduceAdd, Int32.reduceSub, Int32.reduceMul, Int32.reduceLE, Int32.reduceLT, Int32.reduceToNatClampNeg, b01_0, b01_1, ne_2_0, ne_3_0, ne_4_0, ne_5_0, ne_6_0, ne_m1_0, ne_m2_0, b01_01, b01_n, lt_m2, lt_m1, le_m2, le_m1, Classical.not_not, j_Told_clear_0, b_Told_clear_0, j_Told_clear_42, b_Told_clear_42, j_Told_clear_64, b_Told_clear_64, an_0, an_1, cl_0, ne_0_1, ne_1_0, vi_0, l0, l1, sT0 hc, sT1 hc, sT2 hc, sT3 hc, sT4 hc, sT5 hc, sT6 hc, sT7 hc, sT8 hc, sT9 hc, pT1 hc, pT2 hc, pT3 hc, pT4 hc, pT5 hc, pT6 hc, pT7 hc, pT8 hc, pT9 hc, q0, q1, q2, c1, vin (show k < 36 by omega) (by omega), ncl (show k < 1000 by omega), nI_1, e]
    first
    | (refine ih (k + 1) _ (by omega) ?_ ?_ <;> simp [cp_s1_at, cp_nl_ref, l0])
    | (refine ⟨q1, ih (k + 1) _ (by omega) ?_ ?_⟩ <;> simp [cp_s1_at, cp_nl_ref, l0])
theorem c_Told_clear (hc : tk c) (h : Q none SH (tcl I c 36) J (PP t u r x)) : MW g false (d + 1) 0 0 m_Told_clear [.ref c] SH I J (PP t u r x) Q := by
  have e : cp_u (cp_u (cp_u (cp_u (cp_u (cp_u (cp_u (cp_u I c 0 0) c 1 0) c 2 0) c 3 0) c 4 0) c 5 0) c 6 0) c 7 0 = tcl I c 0 := by
    funext a j
    unfold cp_u tcl
    by_cases h1 : a = c
    · by_cases h2 : j < 8
      · have : j = 0 ∨ j = 1 ∨ j = 2 ∨ j = 3 ∨ j = 4 ∨ j = 5 ∨ j = 6 ∨ j = 7 := by omega
        rcases this with rfl | rfl | rfl | rfl | rfl | rfl | rfl | rfl <;> simp [h1]
      · have g1 : ¬ j = 7 := by omega
        have g2 : ¬ j = 6 := by omega
        have g3 : ¬ j = 5 := by omega
        have g4 : ¬ j = 4 := by omega
        have g5 : ¬ j = 3 := by omega
        have g6 : ¬ j = 2 := by omega
        have g7 : ¬ j = 1 := by omega
        have g8 : ¬ j = 0 := by omega
        simp [g1, g2, g3, g4, g5, g6, g7, g8, h2]
    · simp [h1]
  refine MW.of ok_Told_clear (Nat.le_of_ble_eq_true rfl) ?_
  refine cp_run 60 (fun t => t == 42) ck_Told_clear ?_
  simp only [cp_vc, cp_vs, cp_jm, cp_ent_en, cp_en_int, cp_en_ref, cp_en_ret, cp_en_long, cp_en_nil, cp_s1_at, cp_s2_at, cp_nl_int, cp_nl_ref, cp_nl_long, cp_nl_none, cp_pop_0, cp_pop_s, reduceIte, if_true, if_false, Bool.false_eq_true, Bool.true_eq_false, false_implies, implies_true, forall_const, true_implies, true_and, and_true, and_self, true_or, or_true, false_or, or_false, Value.category, List.length_cons, List.length_nil, Option.toList_some, Option.toList_none, List.cons_append, List.nil_append, List.append_nil, Prod.mk.injEq, Nat.add_zero, Nat.zero_add, Nat.reduceAdd, Nat.reduceSub, Nat.reduceEqDiff, Nat.reduceLeDiff, Nat.reduceLT, Nat.le_refl, beq_self_eq_true, Nat.reduceBEq, ne_eq, not_true_eq_false, not_false_eq_true, Int32.reduceAdd, Int32.reduceSub, Int32.reduceMul, Int32.reduceLE, Int32.reduceLT, Int32.reduceToNatClampNeg, b01_0, b01_1, ne_2_0, ne_3_0, ne_4_0, ne_5_0, ne_6_0, ne_m1_0, ne_m2_0, b01_01, b01_n, lt_m2, lt_m1, le_m2, le_m1, Classical.not_not, j_Told_clear_0, b_Told_clear_0, j_Told_clear_42, b_Told_clear_42, j_Told_clear_64, b_Told_clear_64, an_0, an_1, cl_0, ne_0_1, ne_1_0, vi_0, sT0 hc, sT1 hc, sT2 hc, sT3 hc, sT4 hc, sT5 hc, sT6 hc, sT7 hc, sT8 hc, sT9 hc, pT1 hc, pT2 hc, pT3 hc, pT4 hc, pT5 hc, pT6 hc, pT7 hc, pT8 hc, pT9 hc, e]
  refine lp_Told_clear hc h 36 0 _ (by omega) ?_ ?_
  · simp [cp_s1_at, cp_ent_en, cp_en_ref, cp_nl_ref]
  · simp [cp_s1_at, nI_0]
end Told1
