section Jdk
variable {g : cp_G} {d : Nat} {sh : cp_H} {I : cp_I} {J : cp_J} {P : cp_P} {Q : cp_QT}
/-! Integer.bitCount -/
def us (a b : Int32) : Int32 := (a.toUInt32 >>> (b.toUInt32 &&& Int32.toUInt32 31)).toInt32
def bc1 (a : Int32) : Int32 := a - (us a 1 &&& 1431655765)
def bc2 (a : Int32) : Int32 := (a &&& 858993459) + (us a 2 &&& 858993459)
def bc3 (a : Int32) : Int32 := (a + us a 4) &&& 252645135
def bc4 (a : Int32) : Int32 := a + us a 8
def bc5 (a : Int32) : Int32 := a + us a 16
def bc (a : Int32) : Int32 := bc5 (bc4 (bc3 (bc2 (bc1 a)))) &&& 63
theorem c_bitCount {a : Int32} (h : Q (some (.int (bc a))) sh I J P) : MW g false (d + 1) 0 0 m_JInt_bitCount [.int a] sh I J P Q := by
  refine MW.of ok_JInt_bitCount (Nat.le_of_ble_eq_true rfl) ?_
  refine cp_run 60 (fun _ => false) ck_JInt_bitCount ?_
  simp only [cp_vc, cp_vs, cp_jm, cp_ent_en, cp_en_int, cp_en_ref, cp_en_ret, cp_en_long, cp_en_nil, cp_s1_at, cp_s2_at, cp_nl_int, cp_nl_ref, cp_nl_long, cp_nl_none, cp_pop_0, cp_pop_s, reduceIte, if_true, if_false, Bool.false_eq_true, Bool.true_eq_false, false_implies, implies_true, forall_const, true_implies, true_and, and_true, and_self, true_or, or_true, false_or, or_false, Value.category, List.length_cons, List.length_nil, Option.toList_some, Option.toList_none, List.cons_append, List.nil_append, List.append_nil, Prod.mk.injEq, Nat.add_zero, Nat.zero_add, Nat.reduceAdd, Nat.reduceSub, Nat.reduceEqDiff, Nat.reduceLeDiff, Nat.reduceLT, Nat.le_refl, beq_self_eq_true, Nat.reduceBEq, ne_eq, not_true_eq_false, not_false_eq_true, Int32.reduceAdd, Int32.reduceSub, Int32.reduceMul, Int32.reduceLE, Int32.reduceLT, Int32.reduceToNatClampNeg, b01_0, b01_1, ne_2_0, ne_3_0, ne_4_0, ne_5_0, ne_6_0, ne_m1_0, ne_m2_0, b01_01, b01_n, lt_m2, lt_m1, le_m2, le_m1, Classical.not_not, j_JInt_bitCount_0, b_JInt_bitCount_0, an_0, an_1, an_16, an_2, an_4, an_8, cl_1, cl_16, cl_2, cl_4, cl_63, cl_8, ne_0_1, ne_0_2, ne_0_4, ne_0_8, ne_1_0, ne_1_2, ne_1_4, ne_1_8, ne_2_0, ne_2_1, ne_2_4, ne_2_8, ne_4_0, ne_4_1, ne_4_2, ne_4_8, ne_8_0, ne_8_1, ne_8_2, ne_8_4, vi_1, vi_16, vi_2, vi_4, vi_63, vi_8]
  exact h
theorem bc_nI {s : Nat} (h : s < 64) : bc (nI s) = nI (card s) := by
  have key : ∀ s : Nat, s < 64 → bc (nI s) = nI (card s) := by decide +kernel
  exact key s h
theorem c_bitCount6 {s : Nat} (hs : s < 64) (h : Q (some (.int (nI (card s)))) sh I J P) : MW g false (d + 1) 0 0 m_JInt_bitCount [.int (nI s)] sh I J P Q := by
  refine c_bitCount ?_
  rw [bc_nI hs]
  exact h
/-! String.length, String.charAt of the constants -/
def tx (j : Nat) : List Int32 := cp_tx.getD j []
theorem tx_ch : ∀ l ∈ cp_tx, ∀ c ∈ l, ((c &&& 255).toUInt32 % 65536).toInt32 = c ∧ c.toUInt32.toUInt16.toUInt32.toInt32 = c := by decide +kernel
theorem cp_txl : cp_tx.length = 36 := by decide +kernel
theorem tx_c {j i : Nat} (hj : j < 36) (hi : i < (tx j).length) : (((tx j).getD i 0 &&& 255).toUInt32 % 65536).toInt32 = (tx j).getD i 0 ∧ ((tx j).getD i 0).toUInt32.toUInt16.toUInt32.toInt32 = (tx j).getD i 0 := by
  have h1 : j < cp_tx.length := by rw [cp_txl]; exact hj
  have e1 : tx j = cp_tx[j] := by simp [tx, h1]
  have e2 : (tx j).getD i 0 = (tx j)[i] := by simp [hi]
  rw [e2]
  exact tx_ch _ (by rw [e1]; exact List.getElem_mem h1) _ (List.getElem_mem hi)
set_option maxRecDepth 20000 in
theorem c_coder {j : Nat} (hj : j < 36) (h : Q (some (.int 0)) sh I J P) : MW g false (d + 1) 0 0 m_JStr_coder [.ref (1000 + j)] sh I J P Q := by
  refine MW.of ok_JStr_coder (Nat.le_of_ble_eq_true rfl) ?_
  have e1 : 1000 + j - 1000 < cp_tx.length := by rw [cp_txl]; omega
  have e2 : 1000 ≤ 1000 + j := by omega
  refine cp_run 20 (fun _ => false) ck_JStr_coder ?_
  simp only [cp_vc, cp_vs, cp_jm, cp_ent_en, cp_en_int, cp_en_ref, cp_en_ret, cp_en_long, cp_en_nil, cp_s1_at, cp_s2_at, cp_nl_int, cp_nl_ref, cp_nl_long, cp_nl_none, cp_pop_0, cp_pop_s, reduceIte, if_true, if_false, Bool.false_eq_true, Bool.true_eq_false, false_implies, implies_true, forall_const, true_implies, true_and, and_true, and_self, true_or, or_true, false_or, or_false, Value.category, List.length_cons, List.length_nil, Option.toList_some, Option.toList_none, List.cons_append, List.nil_append, List.append_nil, Prod.mk.injEq, Nat.add_zero, Nat.zero_add, Nat.reduceAdd, Nat.reduceSub, Nat.reduceEqDiff, Nat.reduceLeDiff, Nat.reduceLT, Nat.le_refl, beq_self_eq_true, Nat.reduceBEq, ne_eq, not_true_eq_false, not_false_eq_true, Int32.reduceAdd, Int32.reduceSub, Int32.reduceMul, Int32.reduceLE, Int32.reduceLT, Int32.reduceToNatClampNeg, b01_0, b01_1, ne_2_0, ne_3_0, ne_4_0, ne_5_0, ne_6_0, ne_m1_0, ne_m2_0, b01_01, b01_n, lt_m2, lt_m1, le_m2, le_m1, Classical.not_not, j_JStr_coder_0, b_JStr_coder_0, j_JStr_coder_13, b_JStr_coder_13, j_JStr_coder_14, b_JStr_coder_14, an_0, an_1, cl_1, ne_0_1, ne_1_0, vi_1, e1, e2]
  exact ⟨by decide +kernel, h⟩
theorem c_isLatin1 {j : Nat} (hj : j < 36) (h : Q (some (.int 1)) sh I J P) : MW g false (d + 1) 0 0 m_JStr_isLatin1 [.ref (1000 + j)] sh I J P Q := by
  refine MW.of ok_JStr_isLatin1 (Nat.le_of_ble_eq_true rfl) ?_
  have e1 : 1000 + j - 1000 < cp_tx.length := by rw [cp_txl]; omega
  have e2 : 1000 ≤ 1000 + j := by omega
  refine cp_run 20 (fun _ => false) ck_JStr_isLatin1 ?_
  simp only [cp_vc, cp_vs, cp_jm, cp_ent_en, cp_en_int, cp_en_ref, cp_en_ret, cp_en_long, cp_en_nil, cp_s1_at, cp_s2_at, cp_nl_int, cp_nl_ref, cp_nl_long, cp_nl_none, cp_pop_0, cp_pop_s, reduceIte, if_true, if_false, Bool.false_eq_true, Bool.true_eq_false, false_implies, implies_true, forall_const, true_implies, true_and, and_true, and_self, true_or, or_true, false_or, or_false, Value.category, List.length_cons, List.length_nil, Option.toList_some, Option.toList_none, List.cons_append, List.nil_append, List.append_nil, Prod.mk.injEq, Nat.add_zero, Nat.zero_add, Nat.reduceAdd, Nat.reduceSub, Nat.reduceEqDiff, Nat.reduceLeDiff, Nat.reduceLT, Nat.le_refl, beq_self_eq_true, Nat.reduceBEq, ne_eq, not_true_eq_false, not_false_eq_true, Int32.reduceAdd, Int32.reduceSub, Int32.reduceMul, Int32.reduceLE, Int32.reduceLT, Int32.reduceToNatClampNeg, b01_0, b01_1, ne_2_0, ne_3_0, ne_4_0, ne_5_0, ne_6_0, ne_m1_0, ne_m2_0, b01_01, b01_n, lt_m2, lt_m1, le_m2, le_m1, Classical.not_not, j_JStr_isLatin1_0, b_JStr_isLatin1_0, j_JStr_isLatin1_17, b_JStr_isLatin1_17, j_JStr_isLatin1_18, b_JStr_isLatin1_18, an_0, an_1, cl_0, cl_1, ne_0_1, ne_1_0, vi_0, vi_1, e1, e2]
  exact h
set_option maxRecDepth 20000 in
theorem c_length {j : Nat} (hj : j < 36) (h : Q (some (.int (nI (tx j).length))) sh I J P) : MW g false (d + 2) 0 0 m_JStr_length [.ref (1000 + j)] sh I J P Q := by
  refine MW.of ok_JStr_length (Nat.le_of_ble_eq_true rfl) ?_
  have e1 : 1000 + j - 1000 < cp_tx.length := by rw [cp_txl]; omega
  have e2 : 1000 ≤ 1000 + j := by omega
  have e3 : 2000 ≤ 1000 + j + 1000 := by omega
  have e4 : 1000 + j + 1000 - 2000 < cp_tx.length := by rw [cp_txl]; omega
  have e5 : 1000 + j + 1000 - 2000 = j := by omega
  have e6 : j < cp_tx.length := by rw [cp_txl]; omega
  refine cp_run 20 (fun _ => false) ck_JStr_length ?_
  simp only [cp_vc, cp_vs, cp_jm, cp_ent_en, cp_en_int, cp_en_ref, cp_en_ret, cp_en_long, cp_en_nil, cp_s1_at, cp_s2_at, cp_nl_int, cp_nl_ref, cp_nl_long, cp_nl_none, cp_pop_0, cp_pop_s, reduceIte, if_true, if_false, Bool.false_eq_true, Bool.true_eq_false, false_implies, implies_true, forall_const, true_implies, true_and, and_true, and_self, true_or, or_true, false_or, or_false, Value.category, List.length_cons, List.length_nil, Option.toList_some, Option.toList_none, List.cons_append, List.nil_append, List.append_nil, Prod.mk.injEq, Nat.add_zero, Nat.zero_add, Nat.reduceAdd, Nat.reduceSub, Nat.reduceEqDiff, Nat.reduceLeDiff, Nat.reduceLT, Nat.le_refl, beq_self_eq_true, Nat.reduceBEq, ne_eq, not_true_eq_false, not_false_eq_true, Int32.reduceAdd, Int32.reduceSub, Int32.reduceMul, Int32.reduceLE, Int32.reduceLT, Int32.reduceToNatClampNeg, b01_0, b01_1, ne_2_0, ne_3_0, ne_4_0, ne_5_0, ne_6_0, ne_m1_0, ne_m2_0, b01_01, b01_n, lt_m2, lt_m1, le_m2, le_m1, Classical.not_not, j_JStr_length_0, b_JStr_length_0, an_0, an_1, ne_0_1, ne_1_0, e1, e2, e3, e5, e6]
  refine c_coder hj ?_
  simp only [cp_kk, cp_vc, cp_vs, cp_jm, cp_ent_en, cp_en_int, cp_en_ref, cp_en_ret, cp_en_long, cp_en_nil, cp_s1_at, cp_s2_at, cp_nl_int, cp_nl_ref, cp_nl_long, cp_nl_none, cp_pop_0, cp_pop_s, reduceIte, if_true, if_false, Bool.false_eq_true, Bool.true_eq_false, false_implies, implies_true, forall_const, true_implies, true_and, and_true, and_self, true_or, or_true, false_or, or_false, Value.category, List.length_cons, List.length_nil, Option.toList_some, Option.toList_none, List.cons_append, List.nil_append, List.append_nil, Prod.mk.injEq, Nat.add_zero, Nat.zero_add, Nat.reduceAdd, Nat.reduceSub, Nat.reduceEqDiff, Nat.reduceLeDiff, Nat.reduceLT, Nat.le_refl, beq_self_eq_true, Nat.reduceBEq, ne_eq, not_true_eq_false, not_false_eq_true, Int32.reduceAdd, Int32.reduceSub, Int32.reduceMul, Int32.reduceLE, Int32.reduceLT, Int32.reduceToNatClampNeg, b01_0, b01_1, ne_2_0, ne_3_0, ne_4_0, ne_5_0, ne_6_0, ne_m1_0, ne_m2_0, b01_01, b01_n, lt_m2, lt_m1, le_m2, le_m1, Classical.not_not, Bool.or_false, Bool.false_or, Bool.true_or, Bool.or_true, j_JStr_length_0, b_JStr_length_0, an_0, an_1, ne_0_1, ne_1_0]
  have e7 : ∀ z : Int32, z >>> ((0 : Int32) &&& 31) = z := by
    intro z
    apply Int32.toBitVec_inj.1
    simp
  skip
  have e8 : ∀ z : Int32, z >>> (0 : Int32) = z := by
    intro z
    apply Int32.toBitVec_inj.1
    simp
  first
  | exact h
  | (rw [e8]; exact h)
theorem c_checkIndexP {i n : Nat} (hi : i < n) (hn : n < 1000) (h : Q (some (.int (nI i))) sh I J P) : MW g false (d + 1) 0 0 m_JPre_checkIndex [.int (nI i), .int (nI n), .retAddr 0] sh I J P Q := by
  have c1 : ¬ nI i < 0 := nI_pos (by omega)
  have c2 : nI i < nI n := (nI_ltI (by omega) (by omega)).2 hi
  refine MW.of ok_JPre_checkIndex (Nat.le_of_ble_eq_true rfl) ?_
  refine cp_run 20 (fun _ => false) ck_JPre_checkIndex ?_
  simp only [cp_vc, cp_vs, cp_jm, cp_ent_en, cp_en_int, cp_en_ref, cp_en_ret, cp_en_long, cp_en_nil, cp_s1_at, cp_s2_at, cp_nl_int, cp_nl_ref, cp_nl_long, cp_nl_none, cp_pop_0, cp_pop_s, reduceIte, if_true, if_false, Bool.false_eq_true, Bool.true_eq_false, false_implies, implies_true, forall_const, true_implies, true_and, and_true, and_self, true_or, or_true, false_or, or_false, Value.category, List.length_cons, List.length_nil, Option.toList_some, Option.toList_none, List.cons_append, List.nil_append, List.append_nil, Prod.mk.injEq, Nat.add_zero, Nat.zero_add, Nat.reduceAdd, Nat.reduceSub, Nat.reduceEqDiff, Nat.reduceLeDiff, Nat.reduceLT, Nat.le_refl, beq_self_eq_true, Nat.reduceBEq, ne_eq, not_true_eq_false, not_false_eq_true, Int32.reduceAdd, Int32.reduceSub, Int32.reduceMul, Int32.reduceLE, Int32.reduceLT, Int32.reduceToNatClampNeg, b01_0, b01_1, ne_2_0, ne_3_0, ne_4_0, ne_5_0, ne_6_0, ne_m1_0, ne_m2_0, b01_01, b01_n, lt_m2, lt_m1, le_m2, le_m1, Classical.not_not, j_JPre_checkIndex_0, b_JPre_checkIndex_0, j_JPre_checkIndex_9, b_JPre_checkIndex_9, j_JPre_checkIndex_16, b_JPre_checkIndex_16, an_0, an_1, ne_0_1, ne_1_0, c1, c2]
  exact h
theorem c_checkIndex {i n : Nat} (hi : i < n) (hn : n < 1000) (h : Q none sh I J P) : MW g false (d + 2) 0 0 m_JStr_checkIndex [.int (nI i), .int (nI n)] sh I J P Q := by
  refine MW.of ok_JStr_checkIndex (Nat.le_of_ble_eq_true rfl) ?_
  refine cp_run 20 (fun _ => false) ck_JStr_checkIndex ?_
  simp only [cp_vc, cp_vs, cp_jm, cp_ent_en, cp_en_int, cp_en_ref, cp_en_ret, cp_en_long, cp_en_nil, cp_s1_at, cp_s2_at, cp_nl_int, cp_nl_ref, cp_nl_long, cp_nl_none, cp_pop_0, cp_pop_s, reduceIte, if_true, if_false, Bool.false_eq_true, Bool.true_eq_false, false_implies, implies_true, forall_const, true_implies, true_and, and_true, and_self, true_or, or_true, false_or, or_false, Value.category, List.length_cons, List.length_nil, Option.toList_some, Option.toList_none, List.cons_append, List.nil_append, List.append_nil, Prod.mk.injEq, Nat.add_zero, Nat.zero_add, Nat.reduceAdd, Nat.reduceSub, Nat.reduceEqDiff, Nat.reduceLeDiff, Nat.reduceLT, Nat.le_refl, beq_self_eq_true, Nat.reduceBEq, ne_eq, not_true_eq_false, not_false_eq_true, Int32.reduceAdd, Int32.reduceSub, Int32.reduceMul, Int32.reduceLE, Int32.reduceLT, Int32.reduceToNatClampNeg, b01_0, b01_1, ne_2_0, ne_3_0, ne_4_0, ne_5_0, ne_6_0, ne_m1_0, ne_m2_0, b01_01, b01_n, lt_m2, lt_m1, le_m2, le_m1, Classical.not_not, j_JStr_checkIndex_0, b_JStr_checkIndex_0, an_0, an_1, ne_0_1, ne_1_0]
  refine c_checkIndexP hi hn ?_
  simp only [cp_kk, cp_vc, cp_vs, cp_jm, cp_ent_en, cp_en_int, cp_en_ref, cp_en_ret, cp_en_long, cp_en_nil, cp_s1_at, cp_s2_at, cp_nl_int, cp_nl_ref, cp_nl_long, cp_nl_none, cp_pop_0, cp_pop_s, reduceIte, if_true, if_false, Bool.false_eq_true, Bool.true_eq_false, false_implies, implies_true, forall_const, true_implies, true_and, and_true, and_self, true_or, or_true, false_or, or_false, Value.category, List.length_cons, List.length_nil, Option.toList_some, Option.toList_none, List.cons_append, List.nil_append, List.append_nil, Prod.mk.injEq, Nat.add_zero, Nat.zero_add, Nat.reduceAdd, Nat.reduceSub, Nat.reduceEqDiff, Nat.reduceLeDiff, Nat.reduceLT, Nat.le_refl, beq_self_eq_true, Nat.reduceBEq, ne_eq, not_true_eq_false, not_false_eq_true, Int32.reduceAdd, Int32.reduceSub, Int32.reduceMul, Int32.reduceLE, Int32.reduceLT, Int32.reduceToNatClampNeg, b01_0, b01_1, ne_2_0, ne_3_0, ne_4_0, ne_5_0, ne_6_0, ne_m1_0, ne_m2_0, b01_01, b01_n, lt_m2, lt_m1, le_m2, le_m1, Classical.not_not, Bool.or_false, Bool.false_or, Bool.true_or, Bool.or_true, j_JStr_checkIndex_0, b_JStr_checkIndex_0, an_0, an_1, ne_0_1, ne_1_0]
  exact h
theorem tx_len {j : Nat} : (tx j).length < 1000 := by
  by_cases h : j < 36
  · have key : ∀ j : Nat, j < 36 → (tx j).length < 1000 := by decide +kernel
    exact key j h
  · have h1 : cp_tx.length ≤ j := by rw [cp_txl]; omega
    simp [tx, h1]
theorem c_latCharAt {j i : Nat} (hj : j < 36) (hi : i < (tx j).length) (h : Q (some (.int ((tx j).getD i 0))) sh I J P) : MW g false (d + 3) 0 0 m_JLat_charAt [.ref (2000 + j), .int (nI i)] sh I J P Q := by
  refine MW.of ok_JLat_charAt (Nat.le_of_ble_eq_true rfl) ?_
  have hl := @tx_len j
  obtain ⟨k1, k2⟩ := tx_c hj hi
  have e3 : 2000 ≤ 2000 + j := by omega
  have e5 : 2000 + j - 2000 = j := by omega
  have e6 : j < cp_tx.length := by rw [cp_txl]; omega
  refine cp_run 20 (fun _ => false) ck_JLat_charAt ?_
  simp only [cp_vc, cp_vs, cp_jm, cp_ent_en, cp_en_int, cp_en_ref, cp_en_ret, cp_en_long, cp_en_nil, cp_s1_at, cp_s2_at, cp_nl_int, cp_nl_ref, cp_nl_long, cp_nl_none, cp_pop_0, cp_pop_s, reduceIte, if_true, if_false, Bool.false_eq_true, Bool.true_eq_false, false_implies, implies_true, forall_const, true_implies, true_and, and_true, and_self, true_or, or_true, false_or, or_false, Value.category, List.length_cons, List.length_nil, Option.toList_some, Option.toList_none, List.cons_append, List.nil_append, List.append_nil, Prod.mk.injEq, Nat.add_zero, Nat.zero_add, Nat.reduceAdd, Nat.reduceSub, Nat.reduceEqDiff, Nat.reduceLeDiff, Nat.reduceLT, Nat.le_refl, beq_self_eq_true, Nat.reduceBEq, ne_eq, not_true_eq_false, not_false_eq_true, Int32.reduceAdd, Int32.reduceSub, Int32.reduceMul, Int32.reduceLE, Int32.reduceLT, Int32.reduceToNatClampNeg, b01_0, b01_1, ne_2_0, ne_3_0, ne_4_0, ne_5_0, ne_6_0, ne_m1_0, ne_m2_0, b01_01, b01_n, lt_m2, lt_m1, le_m2, le_m1, Classical.not_not, j_JLat_charAt_0, b_JLat_charAt_0, an_0, an_1, ne_0_1, ne_1_0, e3, e5, e6]
  refine c_checkIndex (n := (tx j).length) hi hl ?_
  have e7 : cp_tx.getD j [] = tx j := rfl
  simp only [cp_kk, cp_vc, cp_vs, cp_jm, cp_ent_en, cp_en_int, cp_en_ref, cp_en_ret, cp_en_long, cp_en_nil, cp_s1_at, cp_s2_at, cp_nl_int, cp_nl_ref, cp_nl_long, cp_nl_none, cp_pop_0, cp_pop_s, reduceIte, if_true, if_false, Bool.false_eq_true, Bool.true_eq_false, false_implies, implies_true, forall_const, true_implies, true_and, and_true, and_self, true_or, or_true, false_or, or_false, Value.category, List.length_cons, List.length_nil, Option.toList_some, Option.toList_none, List.cons_append, List.nil_append, List.append_nil, Prod.mk.injEq, Nat.add_zero, Nat.zero_add, Nat.reduceAdd, Nat.reduceSub, Nat.reduceEqDiff, Nat.reduceLeDiff, Nat.reduceLT, Nat.le_refl, beq_self_eq_true, Nat.reduceBEq, ne_eq, not_true_eq_false, not_false_eq_true, Int32.reduceAdd, Int32.reduceSub, Int32.reduceMul, Int32.reduceLE, Int32.reduceLT, Int32.reduceToNatClampNeg, b01_0, b01_1, ne_2_0, ne_3_0, ne_4_0, ne_5_0, ne_6_0, ne_m1_0, ne_m2_0, b01_01, b01_n, lt_m2, lt_m1, le_m2, le_m1, Classical.not_not, Bool.or_false, Bool.false_or, Bool.true_or, Bool.or_true, j_JLat_charAt_0, b_JLat_charAt_0, an_0, an_1, ne_0_1, ne_1_0, e3, e5, e6, e7, vin hi hl, ncl (show i < 1000 by omega), k1, k2]
  exact h
theorem c_charAt {j i : Nat} (hj : j < 36) (hi : i < (tx j).length) (h : Q (some (.int ((tx j).getD i 0))) sh I J P) : MW g false (d + 4) 0 0 m_JStr_charAt [.ref (1000 + j), .int (nI i)] sh I J P Q := by
  refine MW.of ok_JStr_charAt (Nat.le_of_ble_eq_true rfl) ?_
  obtain ⟨k1, k2⟩ := tx_c hj hi
  have e1 : 1000 + j - 1000 < cp_tx.length := by rw [cp_txl]; omega
  have e2 : 1000 ≤ 1000 + j := by omega
  refine cp_run 20 (fun _ => false) ck_JStr_charAt ?_
  simp only [cp_vc, cp_vs, cp_jm, cp_ent_en, cp_en_int, cp_en_ref, cp_en_ret, cp_en_long, cp_en_nil, cp_s1_at, cp_s2_at, cp_nl_int, cp_nl_ref, cp_nl_long, cp_nl_none, cp_pop_0, cp_pop_s, reduceIte, if_true, if_false, Bool.false_eq_true, Bool.true_eq_false, false_implies, implies_true, forall_const, true_implies, true_and, and_true, and_self, true_or, or_true, false_or, or_false, Value.category, List.length_cons, List.length_nil, Option.toList_some, Option.toList_none, List.cons_append, List.nil_append, List.append_nil, Prod.mk.injEq, Nat.add_zero, Nat.zero_add, Nat.reduceAdd, Nat.reduceSub, Nat.reduceEqDiff, Nat.reduceLeDiff, Nat.reduceLT, Nat.le_refl, beq_self_eq_true, Nat.reduceBEq, ne_eq, not_true_eq_false, not_false_eq_true, Int32.reduceAdd, Int32.reduceSub, Int32.reduceMul, Int32.reduceLE, Int32.reduceLT, Int32.reduceToNatClampNeg, b01_0, b01_1, ne_2_0, ne_3_0, ne_4_0, ne_5_0, ne_6_0, ne_m1_0, ne_m2_0, b01_01, b01_n, lt_m2, lt_m1, le_m2, le_m1, Classical.not_not, j_JStr_charAt_0, b_JStr_charAt_0, j_JStr_charAt_16, b_JStr_charAt_16, an_0, an_1, ne_0_1, ne_1_0, e1, e2]
  refine c_isLatin1 hj ?_
  simp only [cp_kk, cp_vc, cp_vs, cp_jm, cp_ent_en, cp_en_int, cp_en_ref, cp_en_ret, cp_en_long, cp_en_nil, cp_s1_at, cp_s2_at, cp_nl_int, cp_nl_ref, cp_nl_long, cp_nl_none, cp_pop_0, cp_pop_s, reduceIte, if_true, if_false, Bool.false_eq_true, Bool.true_eq_false, false_implies, implies_true, forall_const, true_implies, true_and, and_true, and_self, true_or, or_true, false_or, or_false, Value.category, List.length_cons, List.length_nil, Option.toList_some, Option.toList_none, List.cons_append, List.nil_append, List.append_nil, Prod.mk.injEq, Nat.add_zero, Nat.zero_add, Nat.reduceAdd, Nat.reduceSub, Nat.reduceEqDiff, Nat.reduceLeDiff, Nat.reduceLT, Nat.le_refl, beq_self_eq_true, Nat.reduceBEq, ne_eq, not_true_eq_false, not_false_eq_true, Int32.reduceAdd, Int32.reduceSub, Int32.reduceMul, Int32.reduceLE, Int32.reduceLT, Int32.reduceToNatClampNeg, b01_0, b01_1, ne_2_0, ne_3_0, ne_4_0, ne_5_0, ne_6_0, ne_m1_0, ne_m2_0, b01_01, b01_n, lt_m2, lt_m1, le_m2, le_m1, Classical.not_not, Bool.or_false, Bool.false_or, Bool.true_or, Bool.or_true, j_JStr_charAt_0, b_JStr_charAt_0, j_JStr_charAt_16, b_JStr_charAt_16, an_0, an_1, ne_0_1, ne_1_0, e1, e2]
  rw [show 1000 + j + 1000 = 2000 + j by omega]
  refine c_latCharAt hj hi ?_
  simp only [cp_kk, cp_vc, cp_vs, cp_jm, cp_ent_en, cp_en_int, cp_en_ref, cp_en_ret, cp_en_long, cp_en_nil, cp_s1_at, cp_s2_at, cp_nl_int, cp_nl_ref, cp_nl_long, cp_nl_none, cp_pop_0, cp_pop_s, reduceIte, if_true, if_false, Bool.false_eq_true, Bool.true_eq_false, false_implies, implies_true, forall_const, true_implies, true_and, and_true, and_self, true_or, or_true, false_or, or_false, Value.category, List.length_cons, List.length_nil, Option.toList_some, Option.toList_none, List.cons_append, List.nil_append, List.append_nil, Prod.mk.injEq, Nat.add_zero, Nat.zero_add, Nat.reduceAdd, Nat.reduceSub, Nat.reduceEqDiff, Nat.reduceLeDiff, Nat.reduceLT, Nat.le_refl, beq_self_eq_true, Nat.reduceBEq, ne_eq, not_true_eq_false, not_false_eq_true, Int32.reduceAdd, Int32.reduceSub, Int32.reduceMul, Int32.reduceLE, Int32.reduceLT, Int32.reduceToNatClampNeg, b01_0, b01_1, ne_2_0, ne_3_0, ne_4_0, ne_5_0, ne_6_0, ne_m1_0, ne_m2_0, b01_01, b01_n, lt_m2, lt_m1, le_m2, le_m1, Classical.not_not, Bool.or_false, Bool.false_or, Bool.true_or, Bool.or_true, j_JStr_charAt_0, b_JStr_charAt_0, j_JStr_charAt_16, b_JStr_charAt_16, an_0, an_1, ne_0_1, ne_1_0, k2]
  exact h
end Jdk
