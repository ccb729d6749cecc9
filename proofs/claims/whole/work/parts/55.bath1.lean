section Bath1
variable {g : cp_G} {d : Nat} {sh : cp_H} {I : cp_I} {J : cp_J} {P : cp_P} {Q : cp_QT} {t u r x n : Nat}
/-! the class's bath: what the calls go by -/
def cT (I : cp_I) (t n : Nat) : Prop := tk t ∧ n ≤ 6 ∧ I t 4 = nI n ∧ ∀ b, b < n → ∃ e, e ≤ 99 ∧ I (t + 3) b = nI e
def cw (I : cp_I) (s : Nat) : Int32 := sp_cl (I 28 s)
def cs (I : cp_I) (s : Nat) : Bool := decide (I 29 s ≤ cw I s)
def cb (I : cp_I) (t n s : Nat) : Nat := sp_bear n (cn I t) (cw I s) s
def ctm (I : cp_I) (t m : Nat) : sp_T := fun a b => if I (t + 4) (6 * a + b) = 0 ∧ m.testBit (pbk a b) = true then 1 else I (t + 4) (6 * a + b)
theorem cl_mm (z : Int32) : (if (0 : Int32) < (if z < 200 then z else 200) then (if z < 200 then z else 200) else 0) = sp_cl z := by
  unfold sp_cl
  have i1 : ∀ a b : Int32, a < b ↔ a.toInt < b.toInt := fun a b => Int32.lt_iff_toInt_lt
  have z0 : (0 : Int32).toInt = 0 := rfl
  have z2 : (200 : Int32).toInt = 200 := rfl
  by_cases h1 : z < 200
  · rw [if_pos h1]
    by_cases h2 : (0 : Int32) < z
    · have h3 : ¬ z < 0 := by rw [i1] at h2 ⊢; omega
      have h4 : ¬ 200 < z := by rw [i1] at h1 ⊢; omega
      rw [if_pos h2, if_neg h3, if_neg h4]
    · rw [if_neg h2]
      by_cases h3 : z < 0
      · rw [if_pos h3]
      · have h4 : ¬ 200 < z := by rw [i1] at h1 ⊢; omega
        rw [if_neg h3, if_neg h4]
        apply Int32.toInt_inj.1
        rw [i1] at h2 h3
        omega
  · rw [if_neg h1]
    have h2 : (0 : Int32) < 200 := by decide +kernel
    have h3 : ¬ z < 0 := by rw [i1] at h1 ⊢; omega
    rw [if_pos h2, if_neg h3]
    by_cases h4 : 200 < z
    · rw [if_pos h4]
    · rw [if_neg h4]
      apply Int32.toInt_inj.1
      rw [i1] at h1 h4
      omega
theorem c_Bath_tie {a b m : Nat} (ht : tk t) (ha : a < 6) (hb : b < 6) (hab : a ≠ b) (hm : I 15 2 = nI m) (h : Q (some (.int (ctm I t m a b))) SH I J (PP t u r x)) : MW g false (d + 2) 0 0 m_Bath_tie [.ref 15, .int (nI a), .int (nI b)] SH I J (PP t u r x) Q := by
  unfold ctm at h
  refine MW.of ok_Bath_tie (Nat.le_of_ble_eq_true rfl) ?_
  refine cp_run 40 (fun _ => false) ck_Bath_tie ?_
  simp only [cp_vc, cp_vs, cp_jm, cp_ent_en, cp_en_int, cp_en_ref, cp_en_ret, cp_en_long, cp_en_nil, cp_s1_at, cp_s2_at, cp_nl_int, cp_nl_ref, cp_nl_long, cp_nl_none, cp_pop_0, cp_pop_s, reduceIte, if_true, if_false, Bool.false_eq_true, Bool.true_eq_false, false_implies, implies_true, forall_const, true_implies, true_and, and_true, and_self, true_or, or_true, false_or, or_false, Value.category, List.length_cons, List.length_nil, Option.toList_some, Option.toList_none, List.cons_append, List.nil_append, List.append_nil, Prod.mk.injEq, Nat.add_zero, Nat.zero_add, Nat.reduceAdd, Nat.reduceSub, Nat.reduceEqDiff, Nat.reduceLeDiff, Nat.reduceLT, Nat.le_refl, beq_self_eq_true, Nat.reduceBEq, ne_eq, not_true_eq_false, not_false_eq_true, Int32.reduceAdd, Int32.reduceSub, Int32.reduceMul, Int32.reduceLE, Int32.reduceLT, Int32.reduceToNatClampNeg, b01_0, b01_1, ne_2_0, ne_3_0, ne_4_0, ne_5_0, ne_6_0, ne_m1_0, ne_m2_0, b01_01, b01_n, lt_m2, lt_m1, le_m2, le_m1, Classical.not_not, j_Bath_tie_0, b_Bath_tie_0, j_Bath_tie_31, b_Bath_tie_31, j_Bath_tie_32, b_Bath_tie_32, an_0, an_1, cl_1, ne_0_1, ne_1_0, pp_15_0, sh_15, vi_1, pp_15_0, sT0 ht, sT1 ht, sT2 ht, sT3 ht, sT4 ht, sT5 ht, sT6 ht, sT7 ht, sT8 ht, sT9 ht, pT1 ht, pT2 ht, pT3 ht, pT4 ht, pT5 ht, pT6 ht, pT7 ht, pT8 ht, pT9 ht]
  refine c_Told_tieAtFirst ht ha hb ?_
  simp only [cp_kk, cp_vc, cp_vs, cp_jm, cp_ent_en, cp_en_int, cp_en_ref, cp_en_ret, cp_en_long, cp_en_nil, cp_s1_at, cp_s2_at, cp_nl_int, cp_nl_ref, cp_nl_long, cp_nl_none, cp_pop_0, cp_pop_s, reduceIte, if_true, if_false, Bool.false_eq_true, Bool.true_eq_false, false_implies, implies_true, forall_const, true_implies, true_and, and_true, and_self, true_or, or_true, false_or, or_false, Value.category, List.length_cons, List.length_nil, Option.toList_some, Option.toList_none, List.cons_append, List.nil_append, List.append_nil, Prod.mk.injEq, Nat.add_zero, Nat.zero_add, Nat.reduceAdd, Nat.reduceSub, Nat.reduceEqDiff, Nat.reduceLeDiff, Nat.reduceLT, Nat.le_refl, beq_self_eq_true, Nat.reduceBEq, ne_eq, not_true_eq_false, not_false_eq_true, Int32.reduceAdd, Int32.reduceSub, Int32.reduceMul, Int32.reduceLE, Int32.reduceLT, Int32.reduceToNatClampNeg, b01_0, b01_1, ne_2_0, ne_3_0, ne_4_0, ne_5_0, ne_6_0, ne_m1_0, ne_m2_0, b01_01, b01_n, lt_m2, lt_m1, le_m2, le_m1, Classical.not_not, Bool.or_false, Bool.false_or, Bool.true_or, Bool.or_true, j_Bath_tie_0, b_Bath_tie_0, j_Bath_tie_31, b_Bath_tie_31, j_Bath_tie_32, b_Bath_tie_32, an_0, an_1, cl_1, ne_0_1, ne_1_0, pp_15_0, sh_15, vi_1]
  refine ⟨fun c => ?_, fun c => ?_⟩
  · rw [if_neg (fun q => c q.1)] at h
    exact h
  · simp only [cp_kk, cp_vc, cp_vs, cp_jm, cp_ent_en, cp_en_int, cp_en_ref, cp_en_ret, cp_en_long, cp_en_nil, cp_s1_at, cp_s2_at, cp_nl_int, cp_nl_ref, cp_nl_long, cp_nl_none, cp_pop_0, cp_pop_s, reduceIte, if_true, if_false, Bool.false_eq_true, Bool.true_eq_false, false_implies, implies_true, forall_const, true_implies, true_and, and_true, and_self, true_or, or_true, false_or, or_false, Value.category, List.length_cons, List.length_nil, Option.toList_some, Option.toList_none, List.cons_append, List.nil_append, List.append_nil, Prod.mk.injEq, Nat.add_zero, Nat.zero_add, Nat.reduceAdd, Nat.reduceSub, Nat.reduceEqDiff, Nat.reduceLeDiff, Nat.reduceLT, Nat.le_refl, beq_self_eq_true, Nat.reduceBEq, ne_eq, not_true_eq_false, not_false_eq_true, Int32.reduceAdd, Int32.reduceSub, Int32.reduceMul, Int32.reduceLE, Int32.reduceLT, Int32.reduceToNatClampNeg, b01_0, b01_1, ne_2_0, ne_3_0, ne_4_0, ne_5_0, ne_6_0, ne_m1_0, ne_m2_0, b01_01, b01_n, lt_m2, lt_m1, le_m2, le_m1, Classical.not_not, Bool.or_false, Bool.false_or, Bool.true_or, Bool.or_true, j_Bath_tie_0, b_Bath_tie_0, j_Bath_tie_31, b_Bath_tie_31, j_Bath_tie_32, b_Bath_tie_32, an_0, an_1, cl_1, ne_0_1, ne_1_0, pp_15_0, sh_15, vi_1, hm]
    refine c_CP_pairBit ha hb hab ?_
    have := pbk_lt ha hb hab
    simp only [cp_kk, cp_vc, cp_vs, cp_jm, cp_ent_en, cp_en_int, cp_en_ref, cp_en_ret, cp_en_long, cp_en_nil, cp_s1_at, cp_s2_at, cp_nl_int, cp_nl_ref, cp_nl_long, cp_nl_none, cp_pop_0, cp_pop_s, reduceIte, if_true, if_false, Bool.false_eq_true, Bool.true_eq_false, false_implies, implies_true, forall_const, true_implies, true_and, and_true, and_self, true_or, or_true, false_or, or_false, Value.category, List.length_cons, List.length_nil, Option.toList_some, Option.toList_none, List.cons_append, List.nil_append, List.append_nil, Prod.mk.injEq, Nat.add_zero, Nat.zero_add, Nat.reduceAdd, Nat.reduceSub, Nat.reduceEqDiff, Nat.reduceLeDiff, Nat.reduceLT, Nat.le_refl, beq_self_eq_true, Nat.reduceBEq, ne_eq, not_true_eq_false, not_false_eq_true, Int32.reduceAdd, Int32.reduceSub, Int32.reduceMul, Int32.reduceLE, Int32.reduceLT, Int32.reduceToNatClampNeg, b01_0, b01_1, ne_2_0, ne_3_0, ne_4_0, ne_5_0, ne_6_0, ne_m1_0, ne_m2_0, b01_01, b01_n, lt_m2, lt_m1, le_m2, le_m1, Classical.not_not, Bool.or_false, Bool.false_or, Bool.true_or, Bool.or_true, j_Bath_tie_0, b_Bath_tie_0, j_Bath_tie_31, b_Bath_tie_31, j_Bath_tie_32, b_Bath_tie_32, an_0, an_1, cl_1, ne_0_1, ne_1_0, pp_15_0, sh_15, vi_1, hm, bit_g (show pbk a b < 31 by omega)]
    refine ⟨fun c2 => ?_, fun c2 => ?_⟩
    · rw [if_neg (fun q => by simp [c2] at q)] at h
      exact h
    · rw [if_pos ⟨c, by simpa using c2⟩] at h
      exact h
theorem c_Bath_warmthOf {s : Nat} (hs : s < 64) (h : Q (some (.int (cw I s))) SH I J (PP t u r x)) : MW g false (d + 1) 0 0 m_Bath_warmthOf [.ref 15, .int (nI s)] SH I J (PP t u r x) Q := by
  unfold cw at h
  refine MW.of ok_Bath_warmthOf (Nat.le_of_ble_eq_true rfl) ?_
  refine cp_run 30 (fun _ => false) ck_Bath_warmthOf ?_
  simp only [cp_vc, cp_vs, cp_jm, cp_ent_en, cp_en_int, cp_en_ref, cp_en_ret, cp_en_long, cp_en_nil, cp_s1_at, cp_s2_at, cp_nl_int, cp_nl_ref, cp_nl_long, cp_nl_none, cp_pop_0, cp_pop_s, reduceIte, if_true, if_false, Bool.false_eq_true, Bool.true_eq_false, false_implies, implies_true, forall_const, true_implies, true_and, and_true, and_self, true_or, or_true, false_or, or_false, Value.category, List.length_cons, List.length_nil, Option.toList_some, Option.toList_none, List.cons_append, List.nil_append, List.append_nil, Prod.mk.injEq, Nat.add_zero, Nat.zero_add, Nat.reduceAdd, Nat.reduceSub, Nat.reduceEqDiff, Nat.reduceLeDiff, Nat.reduceLT, Nat.le_refl, beq_self_eq_true, Nat.reduceBEq, ne_eq, not_true_eq_false, not_false_eq_true, Int32.reduceAdd, Int32.reduceSub, Int32.reduceMul, Int32.reduceLE, Int32.reduceLT, Int32.reduceToNatClampNeg, b01_0, b01_1, ne_2_0, ne_3_0, ne_4_0, ne_5_0, ne_6_0, ne_m1_0, ne_m2_0, b01_01, b01_n, lt_m2, lt_m1, le_m2, le_m1, Classical.not_not, j_Bath_warmthOf_0, b_Bath_warmthOf_0, an_0, an_1, cl_0, ne_0_1, ne_1_0, pp_15_6, sh_15, sh_28, vi_0, vin (show s < 64 by omega) (by omega), ncl (show s < 1000 by omega), cl_mm]
  exact h
theorem c_Bath_isSnug {s : Nat} (hs : s < 64) (h : Q (some (.int (if cs I s = true then 1 else 0))) SH I J (PP t u r x)) : MW g false (d + 2) 0 0 m_Bath_isSnug [.ref 15, .int (nI s)] SH I J (PP t u r x) Q := by
  unfold cs at h
  refine MW.of ok_Bath_isSnug (Nat.le_of_ble_eq_true rfl) ?_
  refine cp_run 30 (fun _ => false) ck_Bath_isSnug ?_
  simp only [cp_vc, cp_vs, cp_jm, cp_ent_en, cp_en_int, cp_en_ref, cp_en_ret, cp_en_long, cp_en_nil, cp_s1_at, cp_s2_at, cp_nl_int, cp_nl_ref, cp_nl_long, cp_nl_none, cp_pop_0, cp_pop_s, reduceIte, if_true, if_false, Bool.false_eq_true, Bool.true_eq_false, false_implies, implies_true, forall_const, true_implies, true_and, and_true, and_self, true_or, or_true, false_or, or_false, Value.category, List.length_cons, List.length_nil, Option.toList_some, Option.toList_none, List.cons_append, List.nil_append, List.append_nil, Prod.mk.injEq, Nat.add_zero, Nat.zero_add, Nat.reduceAdd, Nat.reduceSub, Nat.reduceEqDiff, Nat.reduceLeDiff, Nat.reduceLT, Nat.le_refl, beq_self_eq_true, Nat.reduceBEq, ne_eq, not_true_eq_false, not_false_eq_true, Int32.reduceAdd, Int32.reduceSub, Int32.reduceMul, Int32.reduceLE, Int32.reduceLT, Int32.reduceToNatClampNeg, b01_0, b01_1, ne_2_0, ne_3_0, ne_4_0, ne_5_0, ne_6_0, ne_m1_0, ne_m2_0, b01_01, b01_n, lt_m2, lt_m1, le_m2, le_m1, Classical.not_not, j_Bath_isSnug_0, b_Bath_isSnug_0, j_Bath_isSnug_18, b_Bath_isSnug_18, j_Bath_isSnug_19, b_Bath_isSnug_19, an_0, an_1, cl_0, cl_1, ne_0_1, ne_1_0, pp_15_7, sh_15, sh_29, vi_0, vi_1]
  refine c_Bath_warmthOf hs ?_
  simp only [cp_kk, cp_vc, cp_vs, cp_jm, cp_ent_en, cp_en_int, cp_en_ref, cp_en_ret, cp_en_long, cp_en_nil, cp_s1_at, cp_s2_at, cp_nl_int, cp_nl_ref, cp_nl_long, cp_nl_none, cp_pop_0, cp_pop_s, reduceIte, if_true, if_false, Bool.false_eq_true, Bool.true_eq_false, false_implies, implies_true, forall_const, true_implies, true_and, and_true, and_self, true_or, or_true, false_or, or_false, Value.category, List.length_cons, List.length_nil, Option.toList_some, Option.toList_none, List.cons_append, List.nil_append, List.append_nil, Prod.mk.injEq, Nat.add_zero, Nat.zero_add, Nat.reduceAdd, Nat.reduceSub, Nat.reduceEqDiff, Nat.reduceLeDiff, Nat.reduceLT, Nat.le_refl, beq_self_eq_true, Nat.reduceBEq, ne_eq, not_true_eq_false, not_false_eq_true, Int32.reduceAdd, Int32.reduceSub, Int32.reduceMul, Int32.reduceLE, Int32.reduceLT, Int32.reduceToNatClampNeg, b01_0, b01_1, ne_2_0, ne_3_0, ne_4_0, ne_5_0, ne_6_0, ne_m1_0, ne_m2_0, b01_01, b01_n, lt_m2, lt_m1, le_m2, le_m1, Classical.not_not, Bool.or_false, Bool.false_or, Bool.true_or, Bool.or_true, j_Bath_isSnug_0, b_Bath_isSnug_0, j_Bath_isSnug_18, b_Bath_isSnug_18, j_Bath_isSnug_19, b_Bath_isSnug_19, an_0, an_1, cl_0, cl_1, ne_0_1, ne_1_0, pp_15_7, sh_15, sh_29, vi_0, vi_1, vin (show s < 64 by omega) (by omega), ncl (show s < 1000 by omega)]
  refine ⟨fun c => ?_, fun c => ?_⟩
  · have : ¬ I 29 s ≤ cw I s := by rw [Int32.lt_iff_toInt_lt] at c; rw [Int32.le_iff_toInt_le]; omega
    simp only [this, decide_false, Bool.false_eq_true, if_false] at h
    exact h
  · have : I 29 s ≤ cw I s := by rw [Int32.lt_iff_toInt_lt] at c; rw [Int32.le_iff_toInt_le]; omega
    simp only [this, decide_true, if_true] at h
    exact h
theorem c_Bath_isIcy {s : Nat} (ht : tk t) (hs : s < 64) (h : Q (some (.int (if cw I s < I t 2 then 1 else 0))) SH I J (PP t u r x)) : MW g false (d + 2) 0 0 m_Bath_isIcy [.ref 15, .int (nI s)] SH I J (PP t u r x) Q := by
  refine MW.of ok_Bath_isIcy (Nat.le_of_ble_eq_true rfl) ?_
  refine cp_run 30 (fun _ => false) ck_Bath_isIcy ?_
  simp only [cp_vc, cp_vs, cp_jm, cp_ent_en, cp_en_int, cp_en_ref, cp_en_ret, cp_en_long, cp_en_nil, cp_s1_at, cp_s2_at, cp_nl_int, cp_nl_ref, cp_nl_long, cp_nl_none, cp_pop_0, cp_pop_s, reduceIte, if_true, if_false, Bool.false_eq_true, Bool.true_eq_false, false_implies, implies_true, forall_const, true_implies, true_and, and_true, and_self, true_or, or_true, false_or, or_false, Value.category, List.length_cons, List.length_nil, Option.toList_some, Option.toList_none, List.cons_append, List.nil_append, List.append_nil, Prod.mk.injEq, Nat.add_zero, Nat.zero_add, Nat.reduceAdd, Nat.reduceSub, Nat.reduceEqDiff, Nat.reduceLeDiff, Nat.reduceLT, Nat.le_refl, beq_self_eq_true, Nat.reduceBEq, ne_eq, not_true_eq_false, not_false_eq_true, Int32.reduceAdd, Int32.reduceSub, Int32.reduceMul, Int32.reduceLE, Int32.reduceLT, Int32.reduceToNatClampNeg, b01_0, b01_1, ne_2_0, ne_3_0, ne_4_0, ne_5_0, ne_6_0, ne_m1_0, ne_m2_0, b01_01, b01_n, lt_m2, lt_m1, le_m2, le_m1, Classical.not_not, j_Bath_isIcy_0, b_Bath_isIcy_0, j_Bath_isIcy_19, b_Bath_isIcy_19, j_Bath_isIcy_20, b_Bath_isIcy_20, an_0, an_1, cl_0, cl_1, ne_0_1, ne_1_0, pp_15_0, sh_15, vi_0, vi_1]
  refine c_Bath_warmthOf hs ?_
  simp only [cp_kk, cp_vc, cp_vs, cp_jm, cp_ent_en, cp_en_int, cp_en_ref, cp_en_ret, cp_en_long, cp_en_nil, cp_s1_at, cp_s2_at, cp_nl_int, cp_nl_ref, cp_nl_long, cp_nl_none, cp_pop_0, cp_pop_s, reduceIte, if_true, if_false, Bool.false_eq_true, Bool.true_eq_false, false_implies, implies_true, forall_const, true_implies, true_and, and_true, and_self, true_or, or_true, false_or, or_false, Value.category, List.length_cons, List.length_nil, Option.toList_some, Option.toList_none, List.cons_append, List.nil_append, List.append_nil, Prod.mk.injEq, Nat.add_zero, Nat.zero_add, Nat.reduceAdd, Nat.reduceSub, Nat.reduceEqDiff, Nat.reduceLeDiff, Nat.reduceLT, Nat.le_refl, beq_self_eq_true, Nat.reduceBEq, ne_eq, not_true_eq_false, not_false_eq_true, Int32.reduceAdd, Int32.reduceSub, Int32.reduceMul, Int32.reduceLE, Int32.reduceLT, Int32.reduceToNatClampNeg, b01_0, b01_1, ne_2_0, ne_3_0, ne_4_0, ne_5_0, ne_6_0, ne_m1_0, ne_m2_0, b01_01, b01_n, lt_m2, lt_m1, le_m2, le_m1, Classical.not_not, Bool.or_false, Bool.false_or, Bool.true_or, Bool.or_true, j_Bath_isIcy_0, b_Bath_isIcy_0, j_Bath_isIcy_19, b_Bath_isIcy_19, j_Bath_isIcy_20, b_Bath_isIcy_20, an_0, an_1, cl_0, cl_1, ne_0_1, ne_1_0, pp_15_0, sh_15, vi_0, vi_1, pp_15_0, sT0 ht, sT1 ht, sT2 ht, sT3 ht, sT4 ht, sT5 ht, sT6 ht, sT7 ht, sT8 ht, sT9 ht, pT1 ht, pT2 ht, pT3 ht, pT4 ht, pT5 ht, pT6 ht, pT7 ht, pT8 ht, pT9 ht]
  refine ⟨fun c => ?_, fun c => ?_⟩
  · have : ¬ cw I s < I t 2 := by rw [Int32.le_iff_toInt_le] at c; rw [Int32.lt_iff_toInt_lt]; omega
    simp only [this, if_false] at h
    exact h
  · have : cw I s < I t 2 := by rw [Int32.le_iff_toInt_le] at c; rw [Int32.lt_iff_toInt_lt]; omega
    simp only [this, if_true] at h
    exact h
theorem c_Bath_bearsIt {b s : Nat} (hc : cT I t n) (hb : b < n) (hs : s < 64) (h : Q (some (.int (if cn I t b ≤ cw I s then 1 else 0))) SH I J (PP t u r x)) : MW g false (d + 2) 0 0 m_Bath_bearsIt [.ref 15, .int (nI b), .int (nI s)] SH I J (PP t u r x) Q := by
  obtain ⟨ht, hn6, hn, he⟩ := hc
  refine MW.of ok_Bath_bearsIt (Nat.le_of_ble_eq_true rfl) ?_
  refine cp_run 30 (fun _ => false) ck_Bath_bearsIt ?_
  simp only [cp_vc, cp_vs, cp_jm, cp_ent_en, cp_en_int, cp_en_ref, cp_en_ret, cp_en_long, cp_en_nil, cp_s1_at, cp_s2_at, cp_nl_int, cp_nl_ref, cp_nl_long, cp_nl_none, cp_pop_0, cp_pop_s, reduceIte, if_true, if_false, Bool.false_eq_true, Bool.true_eq_false, false_implies, implies_true, forall_const, true_implies, true_and, and_true, and_self, true_or, or_true, false_or, or_false, Value.category, List.length_cons, List.length_nil, Option.toList_some, Option.toList_none, List.cons_append, List.nil_append, List.append_nil, Prod.mk.injEq, Nat.add_zero, Nat.zero_add, Nat.reduceAdd, Nat.reduceSub, Nat.reduceEqDiff, Nat.reduceLeDiff, Nat.reduceLT, Nat.le_refl, beq_self_eq_true, Nat.reduceBEq, ne_eq, not_true_eq_false, not_false_eq_true, Int32.reduceAdd, Int32.reduceSub, Int32.reduceMul, Int32.reduceLE, Int32.reduceLT, Int32.reduceToNatClampNeg, b01_0, b01_1, ne_2_0, ne_3_0, ne_4_0, ne_5_0, ne_6_0, ne_m1_0, ne_m2_0, b01_01, b01_n, lt_m2, lt_m1, le_m2, le_m1, Classical.not_not, j_Bath_bearsIt_0, b_Bath_bearsIt_0, j_Bath_bearsIt_20, b_Bath_bearsIt_20, j_Bath_bearsIt_21, b_Bath_bearsIt_21, an_0, an_1, cl_0, cl_1, ne_0_1, ne_1_0, pp_15_0, sh_15, vi_0, vi_1]
  refine c_Bath_warmthOf hs ?_
  simp only [cp_kk, cp_vc, cp_vs, cp_jm, cp_ent_en, cp_en_int, cp_en_ref, cp_en_ret, cp_en_long, cp_en_nil, cp_s1_at, cp_s2_at, cp_nl_int, cp_nl_ref, cp_nl_long, cp_nl_none, cp_pop_0, cp_pop_s, reduceIte, if_true, if_false, Bool.false_eq_true, Bool.true_eq_false, false_implies, implies_true, forall_const, true_implies, true_and, and_true, and_self, true_or, or_true, false_or, or_false, Value.category, List.length_cons, List.length_nil, Option.toList_some, Option.toList_none, List.cons_append, List.nil_append, List.append_nil, Prod.mk.injEq, Nat.add_zero, Nat.zero_add, Nat.reduceAdd, Nat.reduceSub, Nat.reduceEqDiff, Nat.reduceLeDiff, Nat.reduceLT, Nat.le_refl, beq_self_eq_true, Nat.reduceBEq, ne_eq, not_true_eq_false, not_false_eq_true, Int32.reduceAdd, Int32.reduceSub, Int32.reduceMul, Int32.reduceLE, Int32.reduceLT, Int32.reduceToNatClampNeg, b01_0, b01_1, ne_2_0, ne_3_0, ne_4_0, ne_5_0, ne_6_0, ne_m1_0, ne_m2_0, b01_01, b01_n, lt_m2, lt_m1, le_m2, le_m1, Classical.not_not, Bool.or_false, Bool.false_or, Bool.true_or, Bool.or_true, j_Bath_bearsIt_0, b_Bath_bearsIt_0, j_Bath_bearsIt_20, b_Bath_bearsIt_20, j_Bath_bearsIt_21, b_Bath_bearsIt_21, an_0, an_1, cl_0, cl_1, ne_0_1, ne_1_0, pp_15_0, sh_15, vi_0, vi_1, pp_15_0, sT0 ht, sT1 ht, sT2 ht, sT3 ht, sT4 ht, sT5 ht, sT6 ht, sT7 ht, sT8 ht, sT9 ht, pT1 ht, pT2 ht, pT3 ht, pT4 ht, pT5 ht, pT6 ht, pT7 ht, pT8 ht, pT9 ht]
  refine c_Told_needOf ht (by omega) (he b hb) ?_
  simp only [cp_kk, cp_vc, cp_vs, cp_jm, cp_ent_en, cp_en_int, cp_en_ref, cp_en_ret, cp_en_long, cp_en_nil, cp_s1_at, cp_s2_at, cp_nl_int, cp_nl_ref, cp_nl_long, cp_nl_none, cp_pop_0, cp_pop_s, reduceIte, if_true, if_false, Bool.false_eq_true, Bool.true_eq_false, false_implies, implies_true, forall_const, true_implies, true_and, and_true, and_self, true_or, or_true, false_or, or_false, Value.category, List.length_cons, List.length_nil, Option.toList_some, Option.toList_none, List.cons_append, List.nil_append, List.append_nil, Prod.mk.injEq, Nat.add_zero, Nat.zero_add, Nat.reduceAdd, Nat.reduceSub, Nat.reduceEqDiff, Nat.reduceLeDiff, Nat.reduceLT, Nat.le_refl, beq_self_eq_true, Nat.reduceBEq, ne_eq, not_true_eq_false, not_false_eq_true, Int32.reduceAdd, Int32.reduceSub, Int32.reduceMul, Int32.reduceLE, Int32.reduceLT, Int32.reduceToNatClampNeg, b01_0, b01_1, ne_2_0, ne_3_0, ne_4_0, ne_5_0, ne_6_0, ne_m1_0, ne_m2_0, b01_01, b01_n, lt_m2, lt_m1, le_m2, le_m1, Classical.not_not, Bool.or_false, Bool.false_or, Bool.true_or, Bool.or_true, j_Bath_bearsIt_0, b_Bath_bearsIt_0, j_Bath_bearsIt_20, b_Bath_bearsIt_20, j_Bath_bearsIt_21, b_Bath_bearsIt_21, an_0, an_1, cl_0, cl_1, ne_0_1, ne_1_0, pp_15_0, sh_15, vi_0, vi_1]
  refine ⟨fun c => ?_, fun c => ?_⟩
  · have : ¬ cn I t b ≤ cw I s := by rw [Int32.lt_iff_toInt_lt] at c; rw [Int32.le_iff_toInt_le]; omega
    simp only [this, if_false] at h
    exact h
  · have : cn I t b ≤ cw I s := by rw [Int32.lt_iff_toInt_lt] at c; rw [Int32.le_iff_toInt_le]; omega
    simp only [this, if_true] at h
    exact h
theorem hb_0 {s k : Nat} (hs : s < 64) (hk : k < 8) : ((nI s >>> (nI k &&& 31)) &&& 1 = 0) = (s.testBit k = false) := by
  rw [hb_val hs hk]
  by_cases h : s.testBit k = true
  · simp [h]
  · simp [h]
theorem lp_Bath_bearers {s : Nat} (hc : cT I t n) (hs : s < 64) : ∀ (m b z : Nat) (L : cp_Lo), b + m = n → z < 64 → L 0 = some (.ref 15) → L 1 = some (.int (nI s)) → L 2 = some (.int (nI z)) → L 3 = some (.int (nI b)) →
    Q (some (.int (nI (fo (fun b z => if (s.testBit b && decide (cn I t b ≤ cw I s)) = true then z ||| 2 ^ b else z) m b z)))) SH I J (PP t u r x) → RW g false (d + 3) 0 0 m_Bath_bearers 0 0 4 L [] SH I J (PP t u r x) Q := by
  obtain ⟨ht, hn6, hn, he⟩ := id hc
  intro m
  induction m with
  | zero =>
    intro b z L hb hz l0 l1 l2 l3 hq
    have c1 : nI n ≤ nI b := nI_le (by omega) (by omega)
    refine cp_run 20 (fun t => t == 4) ck_Bath_bearers ?_
    simp only [cp_vc, cp_vs, cp_jm, cp_ent_en, cp_en_int, cp_en_ref, cp_en_ret, cp_en_long, cp_en_nil, cp_s1_at, cp_s2_at, cp_nl_int, cp_nl_ref, cp_nl_long, cp_nl_none, cp_pop_0, cp_pop_s, reduceIte, if_true, if_false, Bool.false_eq_true, Bool.true_eq_false, false_implies, implies_true, forall_const, true_implies, true_and, and_true, and_self, true_or, or_true, false_or, or_false, Value.category, List.length_cons, List.length_nil, Option.toList_some, Option.toList_none, List.cons_append, List.nil_append, List.append_nil, Prod.mk.injEq, Nat.add_zero, Nat.zero_add, Nat.reduceAdd, Nat.reduceSub, Nat.reduceEqDiff, Nat.reduceLeDiff, Nat.reduceLT, Nat.le_refl, beq_self_eq_true, Nat.reduceBEq, ne_eq, not_true_eq_false, not_false_eq_true, Int32.reduceAdd, Int32.reduceSub, Int32.reduceMul, Int32.reduceLE, Int32.reduceLT, Int32.reduceToNatClampNeg, b01_0, b01_1, ne_2_0, ne_3_0, ne_4_0, ne_5_0, ne_6_0, ne_m1_0, ne_m2_0, b01_01, b01_n, lt_m2, lt_m1, le_m2, le_m1, Classical.not_not, j_Bath_bearers_0, b_Bath_bearers_0, j_Bath_bearers_4, b_Bath_bearers_4, j_Bath_bearers_38, b_Bath_bearers_38, j_Bath_bearers_44, b_Bath_bearers_44, an_0, an_1, cl_0, cl_1, ne_0_1, ne_1_0, pp_15_0, sh_15, vi_0, vi_1, l0, l1, l2, l3, pp_15_0, sT0 ht, sT1 ht, sT2 ht, sT3 ht, sT4 ht, sT5 ht, sT6 ht, sT7 ht, sT8 ht, sT9 ht, pT1 ht, pT2 ht, pT3 ht, pT4 ht, pT5 ht, pT6 ht, pT7 ht, pT8 ht, pT9 ht, hn, c1]
    exact hq
  | succ m ih =>
    intro b z L hb hz l0 l1 l2 l3 hq
    have c1 : ¬ nI n ≤ nI b := nI_ge (by omega) (by omega)
    rw [fo] at hq
    refine cp_run 40 (fun t => t == 4) ck_Bath_bearers ?_
    simp only [cp_vc, cp_vs, cp_jm, cp_ent_en, cp_en_int, cp_en_ref, cp_en_ret, cp_en_long, cp_en_nil, cp_s1_at, cp_s2_at, cp_nl_int, cp_nl_ref, cp_nl_long, cp_nl_none, cp_pop_0, cp_pop_s, reduceIte, if_true, if_false, Bool.false_eq_true, Bool.true_eq_false, false_implies, implies_true, forall_const, true_implies, true_and, and_true, and_self, true_or, or_true, false_or, or_false, Value.category, List.length_cons, List.length_nil, Option.toList_some, Option.toList_none, List.cons_append, List.nil_append, List.append_nil, Prod.mk.injEq, Nat.add_zero, Nat.zero_add, Nat.reduceAdd, Nat.reduceSub, Nat.reduceEqDiff, Nat.reduceLeDiff, Nat.reduceLT, Nat.le_refl, beq_self_eq_true, Nat.reduceBEq, ne_eq, not_true_eq_false, not_false_eq_true, Int32.reduceAdd, Int32.reduceSub, Int32.reduceMul, Int32.reduceLE, Int32.reduceLT, Int32.reduceToNatClampNeg, b01_0, b01_1, ne_2_0, ne_3_0, ne_4_0, ne_5_0, ne_6_0, ne_m1_0, ne_m2_0, b01_01, b01_n, lt_m2, lt_m1, le_m2, le_m1, Classical.not_not, j_Bath_bearers_0, b_Bath_bearers_0, j_Bath_bearers_4, b_Bath_bearers_4, j_Bath_bearers_38, b_Bath_bearers_38, j_Bath_bearers_44, b_Bath_bearers_44, an_0, an_1, cl_0, cl_1, ne_0_1, ne_1_0, pp_15_0, sh_15, vi_0, vi_1, l0, l1, l2, l3, pp_15_0, sT0 ht, sT1 ht, sT2 ht, sT3 ht, sT4 ht, sT5 ht, sT6 ht, sT7 ht, sT8 ht, sT9 ht, pT1 ht, pT2 ht, pT3 ht, pT4 ht, pT5 ht, pT6 ht, pT7 ht, pT8 ht, pT9 ht, hn, c1, hb_0 hs (show b < 8 by omega), nI_1]
    refine ⟨fun c => ?_, fun c => ?_⟩
    · simp only [c, Bool.false_and, Bool.false_eq_true, if_false] at hq
      refine ih (b + 1) z _ (by omega) hz ?_ ?_ ?_ ?_ hq <;> simp [cp_s1_at, cp_nl_ref, cp_nl_int, l0, l1, l2]
    · have c' : s.testBit b = true := by simpa using c
      simp only [c', Bool.true_and, decide_eq_true_eq] at hq
      refine c_Bath_bearsIt hc (by omega) hs ?_
      simp only [cp_kk, cp_vc, cp_vs, cp_jm, cp_ent_en, cp_en_int, cp_en_ref, cp_en_ret, cp_en_long, cp_en_nil, cp_s1_at, cp_s2_at, cp_nl_int, cp_nl_ref, cp_nl_long, cp_nl_none, cp_pop_0, cp_pop_s, reduceIte, if_true, if_false, Bool.false_eq_true, Bool.true_eq_false, false_implies, implies_true, forall_const, true_implies, true_and, and_true, and_self, true_or, or_true, false_or, or_false, Value.category, List.length_cons, List.length_nil, Option.toList_some, Option.toList_none, List.cons_append, List.nil_append, List.append_nil, Prod.mk.injEq, Nat.add_zero, Nat.zero_add, Nat.reduceAdd, Nat.reduceSub, Nat.reduceEqDiff, Nat.reduceLeDiff, Nat.reduceLT, Nat.le_refl, beq_self_eq_true, Nat.reduceBEq, ne_eq, not_true_eq_false, not_false_eq_true, Int32.reduceAdd, Int32.reduceSub, Int32.reduceMul, Int32.reduceLE, Int32.reduceLT, Int32.reduceToNatClampNeg, b01_0, b01_1, ne_2_0, ne_3_0, ne_4_0, ne_5_0, ne_6_0, ne_m1_0, ne_m2_0, b01_01, b01_n, lt_m2, lt_m1, le_m2, le_m1, Classical.not_not, Bool.or_false, Bool.false_or, Bool.true_or, Bool.or_true, j_Bath_bearers_0, b_Bath_bearers_0, j_Bath_bearers_4, b_Bath_bearers_4, j_Bath_bearers_38, b_Bath_bearers_38, j_Bath_bearers_44, b_Bath_bearers_44, an_0, an_1, cl_0, cl_1, ne_0_1, ne_1_0, pp_15_0, sh_15, vi_0, vi_1, l0, l1, l2, l3, nI_1, sh1 (show b < 8 by omega), or_nI hz (pow_lt64 (show b < 6 by omega))]
      refine ⟨fun c2 => ?_, fun c2 => ?_⟩
      · rw [if_neg c2] at hq
        refine ih (b + 1) z _ (by omega) hz ?_ ?_ ?_ ?_ hq <;> simp [cp_s1_at, cp_nl_ref, cp_nl_int, l0, l1, l2]
      · rw [if_pos c2] at hq
        refine ih (b + 1) (z ||| 2 ^ b) _ (by omega) (or_lt64 hz (pow_lt64 (by omega))) ?_ ?_ ?_ ?_ hq <;> simp [cp_s1_at, cp_nl_ref, cp_nl_int, l0, l1]
theorem c_Bath_bearers {s : Nat} (hc : cT I t n) (hs : s < 64) (h : Q (some (.int (nI (cb I t n s)))) SH I J (PP t u r x)) : MW g false (d + 3) 0 0 m_Bath_bearers [.ref 15, .int (nI s)] SH I J (PP t u r x) Q := by
  refine MW.of ok_Bath_bearers (Nat.le_of_ble_eq_true rfl) ?_
  refine cp_run 20 (fun t => t == 4) ck_Bath_bearers ?_
  simp only [cp_vc, cp_vs, cp_jm, cp_ent_en, cp_en_int, cp_en_ref, cp_en_ret, cp_en_long, cp_en_nil, cp_s1_at, cp_s2_at, cp_nl_int, cp_nl_ref, cp_nl_long, cp_nl_none, cp_pop_0, cp_pop_s, reduceIte, if_true, if_false, Bool.false_eq_true, Bool.true_eq_false, false_implies, implies_true, forall_const, true_implies, true_and, and_true, and_self, true_or, or_true, false_or, or_false, Value.category, List.length_cons, List.length_nil, Option.toList_some, Option.toList_none, List.cons_append, List.nil_append, List.append_nil, Prod.mk.injEq, Nat.add_zero, Nat.zero_add, Nat.reduceAdd, Nat.reduceSub, Nat.reduceEqDiff, Nat.reduceLeDiff, Nat.reduceLT, Nat.le_refl, beq_self_eq_true, Nat.reduceBEq, ne_eq, not_true_eq_false, not_false_eq_true, Int32.reduceAdd, Int32.reduceSub, Int32.reduceMul, Int32.reduceLE, Int32.reduceLT, Int32.reduceToNatClampNeg, b01_0, b01_1, ne_2_0, ne_3_0, ne_4_0, ne_5_0, ne_6_0, ne_m1_0, ne_m2_0, b01_01, b01_n, lt_m2, lt_m1, le_m2, le_m1, Classical.not_not, j_Bath_bearers_0, b_Bath_bearers_0, j_Bath_bearers_4, b_Bath_bearers_4, j_Bath_bearers_38, b_Bath_bearers_38, j_Bath_bearers_44, b_Bath_bearers_44, an_0, an_1, cl_0, cl_1, ne_0_1, ne_1_0, pp_15_0, sh_15, vi_0, vi_1]
  refine lp_Bath_bearers hc hs n 0 0 _ (by omega) (by omega) ?_ ?_ ?_ ?_ h <;> simp [cp_s1_at, cp_ent_en, cp_en_ref, cp_en_int, cp_nl_ref, cp_nl_int, nI_0]
theorem cb_lt (hc : cT I t n) (s : Nat) : cb I t n s < 64 := sp_set_lt hc.2.1 _
/-- who stays, by a word of snugness and the bearers -/
def sp_stS (S : Nat → Bool) (B : Nat → Nat) : Nat → Nat → Nat × Nat
  | 0, s => (s, 0)
  | f + 1, s => if S s = true then (s, 0) else ((sp_stS S B f (B s)).1, (sp_stS S B f (B s)).2 + 1)
theorem lp_Bath_leftOf (hc : cT I t n) : ∀ (f k s : Nat) (L : cp_Lo), k + f = 7 → s < 64 → L 0 = some (.ref 15) → L 2 = some (.int (nI s)) → L 3 = some (.int (nI k)) →
    Q (some (.int (nI (sp_stS (cs I) (cb I t n) f s).1))) SH I J (PP t u r x) → RW g false (d + 4) 0 0 m_Bath_leftOf 0 0 4 L [] SH I J (PP t u r x) Q := by
  intro f
  induction f with
  | zero =>
    intro k s L hk hs l0 l2 l3 hq
    have c1 : (6 : Int32) < nI k := nI_lt (a := 6) (by omega) (by omega)
    refine cp_run 20 (fun t => t == 4) ck_Bath_leftOf ?_
    simp only [cp_vc, cp_vs, cp_jm, cp_ent_en, cp_en_int, cp_en_ref, cp_en_ret, cp_en_long, cp_en_nil, cp_s1_at, cp_s2_at, cp_nl_int, cp_nl_ref, cp_nl_long, cp_nl_none, cp_pop_0, cp_pop_s, reduceIte, if_true, if_false, Bool.false_eq_true, Bool.true_eq_false, false_implies, implies_true, forall_const, true_implies, true_and, and_true, and_self, true_or, or_true, false_or, or_false, Value.category, List.length_cons, List.length_nil, Option.toList_some, Option.toList_none, List.cons_append, List.nil_append, List.append_nil, Prod.mk.injEq, Nat.add_zero, Nat.zero_add, Nat.reduceAdd, Nat.reduceSub, Nat.reduceEqDiff, Nat.reduceLeDiff, Nat.reduceLT, Nat.le_refl, beq_self_eq_true, Nat.reduceBEq, ne_eq, not_true_eq_false, not_false_eq_true, Int32.reduceAdd, Int32.reduceSub, Int32.reduceMul, Int32.reduceLE, Int32.reduceLT, Int32.reduceToNatClampNeg, b01_0, b01_1, ne_2_0, ne_3_0, ne_4_0, ne_5_0, ne_6_0, ne_m1_0, ne_m2_0, b01_01, b01_n, lt_m2, lt_m1, le_m2, le_m1, Classical.not_not, j_Bath_leftOf_0, b_Bath_leftOf_0, j_Bath_leftOf_4, b_Bath_leftOf_4, j_Bath_leftOf_30, b_Bath_leftOf_30, an_0, an_1, an_6, cl_0, cl_6, ne_0_1, ne_0_6, ne_1_0, ne_1_6, ne_6_0, ne_6_1, sh_15, vi_0, vi_6, l0, l2, l3, c1]
    exact hq
  | succ f ih =>
    intro k s L hk hs l0 l2 l3 hq
    have c1 : ¬ (6 : Int32) < nI k := nI_nlt (b := k) (a := 6) (by omega) (by omega)
    rw [sp_stS] at hq
    refine cp_run 20 (fun t => t == 4) ck_Bath_leftOf ?_
    simp only [cp_vc, cp_vs, cp_jm, cp_ent_en, cp_en_int, cp_en_ref, cp_en_ret, cp_en_long, cp_en_nil, cp_s1_at, cp_s2_at, cp_nl_int, cp_nl_ref, cp_nl_long, cp_nl_none, cp_pop_0, cp_pop_s, reduceIte, if_true, if_false, Bool.false_eq_true, Bool.true_eq_false, false_implies, implies_true, forall_const, true_implies, true_and, and_true, and_self, true_or, or_true, false_or, or_false, Value.category, List.length_cons, List.length_nil, Option.toList_some, Option.toList_none, List.cons_append, List.nil_append, List.append_nil, Prod.mk.injEq, Nat.add_zero, Nat.zero_add, Nat.reduceAdd, Nat.reduceSub, Nat.reduceEqDiff, Nat.reduceLeDiff, Nat.reduceLT, Nat.le_refl, beq_self_eq_true, Nat.reduceBEq, ne_eq, not_true_eq_false, not_false_eq_true, Int32.reduceAdd, Int32.reduceSub, Int32.reduceMul, Int32.reduceLE, Int32.reduceLT, Int32.reduceToNatClampNeg, b01_0, b01_1, ne_2_0, ne_3_0, ne_4_0, ne_5_0, ne_6_0, ne_m1_0, ne_m2_0, b01_01, b01_n, lt_m2, lt_m1, le_m2, le_m1, Classical.not_not, j_Bath_leftOf_0, b_Bath_leftOf_0, j_Bath_leftOf_4, b_Bath_leftOf_4, j_Bath_leftOf_30, b_Bath_leftOf_30, an_0, an_1, an_6, cl_0, cl_6, ne_0_1, ne_0_6, ne_1_0, ne_1_6, ne_6_0, ne_6_1, sh_15, vi_0, vi_6, l0, l2, l3, c1]
    refine c_Bath_isSnug hs ?_
    simp only [cp_kk, cp_vc, cp_vs, cp_jm, cp_ent_en, cp_en_int, cp_en_ref, cp_en_ret, cp_en_long, cp_en_nil, cp_s1_at, cp_s2_at, cp_nl_int, cp_nl_ref, cp_nl_long, cp_nl_none, cp_pop_0, cp_pop_s, reduceIte, if_true, if_false, Bool.false_eq_true, Bool.true_eq_false, false_implies, implies_true, forall_const, true_implies, true_and, and_true, and_self, true_or, or_true, false_or, or_false, Value.category, List.length_cons, List.length_nil, Option.toList_some, Option.toList_none, List.cons_append, List.nil_append, List.append_nil, Prod.mk.injEq, Nat.add_zero, Nat.zero_add, Nat.reduceAdd, Nat.reduceSub, Nat.reduceEqDiff, Nat.reduceLeDiff, Nat.reduceLT, Nat.le_refl, beq_self_eq_true, Nat.reduceBEq, ne_eq, not_true_eq_false, not_false_eq_true, Int32.reduceAdd, Int32.reduceSub, Int32.reduceMul, Int32.reduceLE, Int32.reduceLT, Int32.reduceToNatClampNeg, b01_0, b01_1, ne_2_0, ne_3_0, ne_4_0, ne_5_0, ne_6_0, ne_m1_0, ne_m2_0, b01_01, b01_n, lt_m2, lt_m1, le_m2, le_m1, Classical.not_not, Bool.or_false, Bool.false_or, Bool.true_or, Bool.or_true, j_Bath_leftOf_0, b_Bath_leftOf_0, j_Bath_leftOf_4, b_Bath_leftOf_4, j_Bath_leftOf_30, b_Bath_leftOf_30, an_0, an_1, an_6, cl_0, cl_6, ne_0_1, ne_0_6, ne_1_0, ne_1_6, ne_6_0, ne_6_1, sh_15, vi_0, vi_6, l0, l2, l3]
    refine ⟨fun c => ?_, fun c => ?_⟩
    · rw [if_pos c] at hq
      exact hq
    · rw [if_neg c] at hq
      refine c_Bath_bearers hc hs ?_
      simp only [cp_kk, cp_vc, cp_vs, cp_jm, cp_ent_en, cp_en_int, cp_en_ref, cp_en_ret, cp_en_long, cp_en_nil, cp_s1_at, cp_s2_at, cp_nl_int, cp_nl_ref, cp_nl_long, cp_nl_none, cp_pop_0, cp_pop_s, reduceIte, if_true, if_false, Bool.false_eq_true, Bool.true_eq_false, false_implies, implies_true, forall_const, true_implies, true_and, and_true, and_self, true_or, or_true, false_or, or_false, Value.category, List.length_cons, List.length_nil, Option.toList_some, Option.toList_none, List.cons_append, List.nil_append, List.append_nil, Prod.mk.injEq, Nat.add_zero, Nat.zero_add, Nat.reduceAdd, Nat.reduceSub, Nat.reduceEqDiff, Nat.reduceLeDiff, Nat.reduceLT, Nat.le_refl, beq_self_eq_true, Nat.reduceBEq, ne_eq, not_true_eq_false, not_false_eq_true, Int32.reduceAdd, Int32.reduceSub, Int32.reduceMul, Int32.reduceLE, Int32.reduceLT, Int32.reduceToNatClampNeg, b01_0, b01_1, ne_2_0, ne_3_0, ne_4_0, ne_5_0, ne_6_0, ne_m1_0, ne_m2_0, b01_01, b01_n, lt_m2, lt_m1, le_m2, le_m1, Classical.not_not, Bool.or_false, Bool.false_or, Bool.true_or, Bool.or_true, j_Bath_leftOf_0, b_Bath_leftOf_0, j_Bath_leftOf_4, b_Bath_leftOf_4, j_Bath_leftOf_30, b_Bath_leftOf_30, an_0, an_1, an_6, cl_0, cl_6, ne_0_1, ne_0_6, ne_1_0, ne_1_6, ne_6_0, ne_6_1, sh_15, vi_0, vi_6, l0, l2, l3, nI_1]
      refine ih (k + 1) (cb I t n s) _ (by omega) (cb_lt hc s) ?_ ?_ ?_ hq <;> simp [cp_s1_at, cp_nl_ref, cp_nl_int, l0]
theorem c_Bath_leftOf {s : Nat} (hc : cT I t n) (hs : s < 64) (h : Q (some (.int (nI (sp_stS (cs I) (cb I t n) 7 s).1))) SH I J (PP t u r x)) : MW g false (d + 4) 0 0 m_Bath_leftOf [.ref 15, .int (nI s)] SH I J (PP t u r x) Q := by
  refine MW.of ok_Bath_leftOf (Nat.le_of_ble_eq_true rfl) ?_
  refine cp_run 20 (fun t => t == 4) ck_Bath_leftOf ?_
  simp only [cp_vc, cp_vs, cp_jm, cp_ent_en, cp_en_int, cp_en_ref, cp_en_ret, cp_en_long, cp_en_nil, cp_s1_at, cp_s2_at, cp_nl_int, cp_nl_ref, cp_nl_long, cp_nl_none, cp_pop_0, cp_pop_s, reduceIte, if_true, if_false, Bool.false_eq_true, Bool.true_eq_false, false_implies, implies_true, forall_const, true_implies, true_and, and_true, and_self, true_or, or_true, false_or, or_false, Value.category, List.length_cons, List.length_nil, Option.toList_some, Option.toList_none, List.cons_append, List.nil_append, List.append_nil, Prod.mk.injEq, Nat.add_zero, Nat.zero_add, Nat.reduceAdd, Nat.reduceSub, Nat.reduceEqDiff, Nat.reduceLeDiff, Nat.reduceLT, Nat.le_refl, beq_self_eq_true, Nat.reduceBEq, ne_eq, not_true_eq_false, not_false_eq_true, Int32.reduceAdd, Int32.reduceSub, Int32.reduceMul, Int32.reduceLE, Int32.reduceLT, Int32.reduceToNatClampNeg, b01_0, b01_1, ne_2_0, ne_3_0, ne_4_0, ne_5_0, ne_6_0, ne_m1_0, ne_m2_0, b01_01, b01_n, lt_m2, lt_m1, le_m2, le_m1, Classical.not_not, j_Bath_leftOf_0, b_Bath_leftOf_0, j_Bath_leftOf_4, b_Bath_leftOf_4, j_Bath_leftOf_30, b_Bath_leftOf_30, an_0, an_1, an_6, cl_0, cl_6, ne_0_1, ne_0_6, ne_1_0, ne_1_6, ne_6_0, ne_6_1, sh_15, vi_0, vi_6]
  refine lp_Bath_leftOf hc 7 0 s _ (by omega) hs ?_ ?_ ?_ h <;> simp [cp_s1_at, cp_ent_en, cp_en_ref, cp_en_int, cp_nl_ref, cp_nl_int, nI_0]
theorem lp_Bath_minutesOf (hc : cT I t n) : ∀ (f k s : Nat) (L : cp_Lo), k + f = 7 → s < 64 → L 0 = some (.ref 15) → L 2 = some (.int (nI s)) → L 3 = some (.int (nI k)) →
    Q (some (.int (nI (k + (sp_stS (cs I) (cb I t n) f s).2)))) SH I J (PP t u r x) → RW g false (d + 4) 0 0 m_Bath_minutesOf 0 0 4 L [] SH I J (PP t u r x) Q := by
  intro f
  induction f with
  | zero =>
    intro k s L hk hs l0 l2 l3 hq
    have c1 : (6 : Int32) < nI k := nI_lt (a := 6) (by omega) (by omega)
    refine cp_run 20 (fun t => t == 4) ck_Bath_minutesOf ?_
    simp only [cp_vc, cp_vs, cp_jm, cp_ent_en, cp_en_int, cp_en_ref, cp_en_ret, cp_en_long, cp_en_nil, cp_s1_at, cp_s2_at, cp_nl_int, cp_nl_ref, cp_nl_long, cp_nl_none, cp_pop_0, cp_pop_s, reduceIte, if_true, if_false, Bool.false_eq_true, Bool.true_eq_false, false_implies, implies_true, forall_const, true_implies, true_and, and_true, and_self, true_or, or_true, false_or, or_false, Value.category, List.length_cons, List.length_nil, Option.toList_some, Option.toList_none, List.cons_append, List.nil_append, List.append_nil, Prod.mk.injEq, Nat.add_zero, Nat.zero_add, Nat.reduceAdd, Nat.reduceSub, Nat.reduceEqDiff, Nat.reduceLeDiff, Nat.reduceLT, Nat.le_refl, beq_self_eq_true, Nat.reduceBEq, ne_eq, not_true_eq_false, not_false_eq_true, Int32.reduceAdd, Int32.reduceSub, Int32.reduceMul, Int32.reduceLE, Int32.reduceLT, Int32.reduceToNatClampNeg, b01_0, b01_1, ne_2_0, ne_3_0, ne_4_0, ne_5_0, ne_6_0, ne_m1_0, ne_m2_0, b01_01, b01_n, lt_m2, lt_m1, le_m2, le_m1, Classical.not_not, j_Bath_minutesOf_0, b_Bath_minutesOf_0, j_Bath_minutesOf_4, b_Bath_minutesOf_4, j_Bath_minutesOf_30, b_Bath_minutesOf_30, an_0, an_1, an_6, cl_0, cl_6, ne_0_1, ne_0_6, ne_1_0, ne_1_6, ne_6_0, ne_6_1, sh_15, vi_0, vi_6, l0, l2, l3, c1]
    exact hq
  | succ f ih =>
    intro k s L hk hs l0 l2 l3 hq
    have c1 : ¬ (6 : Int32) < nI k := nI_nlt (b := k) (a := 6) (by omega) (by omega)
    rw [sp_stS] at hq
    refine cp_run 20 (fun t => t == 4) ck_Bath_minutesOf ?_
    simp only [cp_vc, cp_vs, cp_jm, cp_ent_en, cp_en_int, cp_en_ref, cp_en_ret, cp_en_long, cp_en_nil, cp_s1_at, cp_s2_at, cp_nl_int, cp_nl_ref, cp_nl_long, cp_nl_none, cp_pop_0, cp_pop_s, reduceIte, if_true, if_false, Bool.false_eq_true, Bool.true_eq_false, false_implies, implies_true, forall_const, true_implies, true_and, and_true, and_self, true_or, or_true, false_or, or_false, Value.category, List.length_cons, List.length_nil, Option.toList_some, Option.toList_none, List.cons_append, List.nil_append, List.append_nil, Prod.mk.injEq, Nat.add_zero, Nat.zero_add, Nat.reduceAdd, Nat.reduceSub, Nat.reduceEqDiff, Nat.reduceLeDiff, Nat.reduceLT, Nat.le_refl, beq_self_eq_true, Nat.reduceBEq, ne_eq, not_true_eq_false, not_false_eq_true, Int32.reduceAdd, Int32.reduceSub, Int32.reduceMul, Int32.reduceLE, Int32.reduceLT, Int32.reduceToNatClampNeg, b01_0, b01_1, ne_2_0, ne_3_0, ne_4_0, ne_5_0, ne_6_0, ne_m1_0, ne_m2_0, b01_01, b01_n, lt_m2, lt_m1, le_m2, le_m1, Classical.not_not, j_Bath_minutesOf_0, b_Bath_minutesOf_0, j_Bath_minutesOf_4, b_Bath_minutesOf_4, j_Bath_minutesOf_30, b_Bath_minutesOf_30, an_0, an_1, an_6, cl_0, cl_6, ne_0_1, ne_0_6, ne_1_0, ne_1_6, ne_6_0, ne_6_1, sh_15, vi_0, vi_6, l0, l2, l3, c1]
    refine c_Bath_isSnug hs ?_
    simp only [cp_kk, cp_vc, cp_vs, cp_jm, cp_ent_en, cp_en_int, cp_en_ref, cp_en_ret, cp_en_long, cp_en_nil, cp_s1_at, cp_s2_at, cp_nl_int, cp_nl_ref, cp_nl_long, cp_nl_none, cp_pop_0, cp_pop_s, reduceIte, if_true, if_false, Bool.false_eq_true, Bool.true_eq_false, false_implies, implies_true, forall_const, true_implies, true_and, and_true, and_self, true_or, or_true, false_or, or_false, Value.category, List.length_cons, List.length_nil, Option.toList_some, Option.toList_none, List.cons_append, List.nil_append, List.append_nil, Prod.mk.injEq, Nat.add_zero, Nat.zero_add, Nat.reduceAdd, Nat.reduceSub, Nat.reduceEqDiff, Nat.reduceLeDiff, Nat.reduceLT, Nat.le_refl, beq_self_eq_true, Nat.reduceBEq, ne_eq, not_true_eq_false, not_false_eq_true, Int32.reduceAdd, Int32.reduceSub, Int32.reduceMul, Int32.reduceLE, Int32.reduceLT, Int32.reduceToNatClampNeg, b01_0, b01_1, ne_2_0, ne_3_0, ne_4_0, ne_5_0, ne_6_0, ne_m1_0, ne_m2_0, b01_01, b01_n, lt_m2, lt_m1, le_m2, le_m1, Classical.not_not, Bool.or_false, Bool.false_or, Bool.true_or, Bool.or_true, j_Bath_minutesOf_0, b_Bath_minutesOf_0, j_Bath_minutesOf_4, b_Bath_minutesOf_4, j_Bath_minutesOf_30, b_Bath_minutesOf_30, an_0, an_1, an_6, cl_0, cl_6, ne_0_1, ne_0_6, ne_1_0, ne_1_6, ne_6_0, ne_6_1, sh_15, vi_0, vi_6, l0, l2, l3]
    refine ⟨fun c => ?_, fun c => ?_⟩
    · rw [if_pos c] at hq
      exact hq
    · rw [if_neg c] at hq
      refine c_Bath_bearers hc hs ?_
      simp only [cp_kk, cp_vc, cp_vs, cp_jm, cp_ent_en, cp_en_int, cp_en_ref, cp_en_ret, cp_en_long, cp_en_nil, cp_s1_at, cp_s2_at, cp_nl_int, cp_nl_ref, cp_nl_long, cp_nl_none, cp_pop_0, cp_pop_s, reduceIte, if_true, if_false, Bool.false_eq_true, Bool.true_eq_false, false_implies, implies_true, forall_const, true_implies, true_and, and_true, and_self, true_or, or_true, false_or, or_false, Value.category, List.length_cons, List.length_nil, Option.toList_some, Option.toList_none, List.cons_append, List.nil_append, List.append_nil, Prod.mk.injEq, Nat.add_zero, Nat.zero_add, Nat.reduceAdd, Nat.reduceSub, Nat.reduceEqDiff, Nat.reduceLeDiff, Nat.reduceLT, Nat.le_refl, beq_self_eq_true, Nat.reduceBEq, ne_eq, not_true_eq_false, not_false_eq_true, Int32.reduceAdd, Int32.reduceSub, Int32.reduceMul, Int32.reduceLE, Int32.reduceLT, Int32.reduceToNatClampNeg, b01_0, b01_1, ne_2_0, ne_3_0, ne_4_0, ne_5_0, ne_6_0, ne_m1_0, ne_m2_0, b01_01, b01_n, lt_m2, lt_m1, le_m2, le_m1, Classical.not_not, Bool.or_false, Bool.false_or, Bool.true_or, Bool.or_true, j_Bath_minutesOf_0, b_Bath_minutesOf_0, j_Bath_minutesOf_4, b_Bath_minutesOf_4, j_Bath_minutesOf_30, b_Bath_minutesOf_30, an_0, an_1, an_6, cl_0, cl_6, ne_0_1, ne_0_6, ne_1_0, ne_1_6, ne_6_0, ne_6_1, sh_15, vi_0, vi_6, l0, l2, l3, nI_1]
      refine ih (k + 1) (cb I t n s) _ (by omega) (cb_lt hc s) ?_ ?_ ?_ ?_
      · simp [cp_s1_at, cp_nl_ref, cp_nl_int, l0]
      · simp [cp_s1_at, cp_nl_ref, cp_nl_int]
      · simp [cp_s1_at, cp_nl_ref, cp_nl_int]
      · rw [show k + 1 + (sp_stS (cs I) (cb I t n) f (cb I t n s)).2 = k + ((sp_stS (cs I) (cb I t n) f (cb I t n s)).2 + 1) by omega]
        exact hq
theorem c_Bath_minutesOf {s : Nat} (hc : cT I t n) (hs : s < 64) (h : Q (some (.int (nI (sp_stS (cs I) (cb I t n) 7 s).2))) SH I J (PP t u r x)) : MW g false (d + 4) 0 0 m_Bath_minutesOf [.ref 15, .int (nI s)] SH I J (PP t u r x) Q := by
  refine MW.of ok_Bath_minutesOf (Nat.le_of_ble_eq_true rfl) ?_
  refine cp_run 20 (fun t => t == 4) ck_Bath_minutesOf ?_
  simp only [cp_vc, cp_vs, cp_jm, cp_ent_en, cp_en_int, cp_en_ref, cp_en_ret, cp_en_long, cp_en_nil, cp_s1_at, cp_s2_at, cp_nl_int, cp_nl_ref, cp_nl_long, cp_nl_none, cp_pop_0, cp_pop_s, reduceIte, if_true, if_false, Bool.false_eq_true, Bool.true_eq_false, false_implies, implies_true, forall_const, true_implies, true_and, and_true, and_self, true_or, or_true, false_or, or_false, Value.category, List.length_cons, List.length_nil, Option.toList_some, Option.toList_none, List.cons_append, List.nil_append, List.append_nil, Prod.mk.injEq, Nat.add_zero, Nat.zero_add, Nat.reduceAdd, Nat.reduceSub, Nat.reduceEqDiff, Nat.reduceLeDiff, Nat.reduceLT, Nat.le_refl, beq_self_eq_true, Nat.reduceBEq, ne_eq, not_true_eq_false, not_false_eq_true, Int32.reduceAdd, Int32.reduceSub, Int32.reduceMul, Int32.reduceLE, Int32.reduceLT, Int32.reduceToNatClampNeg, b01_0, b01_1, ne_2_0, ne_3_0, ne_4_0, ne_5_0, ne_6_0, ne_m1_0, ne_m2_0, b01_01, b01_n, lt_m2, lt_m1, le_m2, le_m1, Classical.not_not, j_Bath_minutesOf_0, b_Bath_minutesOf_0, j_Bath_minutesOf_4, b_Bath_minutesOf_4, j_Bath_minutesOf_30, b_Bath_minutesOf_30, an_0, an_1, an_6, cl_0, cl_6, ne_0_1, ne_0_6, ne_1_0, ne_1_6, ne_6_0, ne_6_1, sh_15, vi_0, vi_6]
  refine lp_Bath_minutesOf hc 7 0 s _ (by omega) hs ?_ ?_ ?_ (by rw [Nat.zero_add]; exact h) <;> simp [cp_s1_at, cp_ent_en, cp_en_ref, cp_en_int, cp_nl_ref, cp_nl_int, nI_0]
/-! who knows whom -/
def cKF (I : cp_I) (n : Nat) (K F : Nat → Nat) : Prop := ∀ b, b < n → I 26 b = nI (K b) ∧ K b < 64 ∧ I 27 b = nI (F b) ∧ F b < 64
theorem c_Bath_areStrangers {a b : Nat} {K F : Nat → Nat} (hn6 : n ≤ 6) (hK : cKF I n K F) (ha : a < n) (hb : b < n) (h : Q (some (.int (if (K a ||| F a).testBit b = false then 1 else 0))) SH I J (PP t u r x)) : MW g false (d + 1) 0 0 m_Bath_areStrangers [.ref 15, .int (nI a), .int (nI b)] SH I J (PP t u r x) Q := by
  obtain ⟨k1, k2, k3, k4⟩ := hK a ha
  refine MW.of ok_Bath_areStrangers (Nat.le_of_ble_eq_true rfl) ?_
  refine cp_run 40 (fun _ => false) ck_Bath_areStrangers ?_
  simp only [cp_vc, cp_vs, cp_jm, cp_ent_en, cp_en_int, cp_en_ref, cp_en_ret, cp_en_long, cp_en_nil, cp_s1_at, cp_s2_at, cp_nl_int, cp_nl_ref, cp_nl_long, cp_nl_none, cp_pop_0, cp_pop_s, reduceIte, if_true, if_false, Bool.false_eq_true, Bool.true_eq_false, false_implies, implies_true, forall_const, true_implies, true_and, and_true, and_self, true_or, or_true, false_or, or_false, Value.category, List.length_cons, List.length_nil, Option.toList_some, Option.toList_none, List.cons_append, List.nil_append, List.append_nil, Prod.mk.injEq, Nat.add_zero, Nat.zero_add, Nat.reduceAdd, Nat.reduceSub, Nat.reduceEqDiff, Nat.reduceLeDiff, Nat.reduceLT, Nat.le_refl, beq_self_eq_true, Nat.reduceBEq, ne_eq, not_true_eq_false, not_false_eq_true, Int32.reduceAdd, Int32.reduceSub, Int32.reduceMul, Int32.reduceLE, Int32.reduceLT, Int32.reduceToNatClampNeg, b01_0, b01_1, ne_2_0, ne_3_0, ne_4_0, ne_5_0, ne_6_0, ne_m1_0, ne_m2_0, b01_01, b01_n, lt_m2, lt_m1, le_m2, le_m1, Classical.not_not, j_Bath_areStrangers_0, b_Bath_areStrangers_0, j_Bath_areStrangers_24, b_Bath_areStrangers_24, j_Bath_areStrangers_25, b_Bath_areStrangers_25, an_0, an_1, cl_0, cl_1, ne_0_1, ne_1_0, pp_15_4, pp_15_5, sh_15, sh_26, sh_27, vi_0, vi_1, vin (show a < 6 by omega) (by omega), ncl (show a < 1000 by omega), k1, k3, or_nI k2 k4, hb_0 (or_lt64 k2 k4) (show b < 8 by omega)]
  refine ⟨fun c => ?_, fun c => ?_⟩
  · rw [if_neg c] at h
    exact h
  · rw [if_pos c] at h
    exact h
theorem and_0 {a b : Nat} (ha : a < 64) : (nI a &&& nI b = 0) = (a &&& b = 0) := by
  rw [and_g]
  have : a &&& b ≤ a := Nat.and_le_left
  exact eqN (b := 0) (by omega) (by omega)
theorem c_Bath_haveFriend {a b : Nat} {K F : Nat → Nat} (hn6 : n ≤ 6) (hK : cKF I n K F) (ha : a < n) (hb : b < n) (h : Q (some (.int (if K a &&& K b = 0 then 0 else 1))) SH I J (PP t u r x)) : MW g false (d + 1) 0 0 m_Bath_haveFriend [.ref 15, .int (nI a), .int (nI b)] SH I J (PP t u r x) Q := by
  obtain ⟨k1, k2, k3, k4⟩ := hK a ha
  obtain ⟨j1, j2, j3, j4⟩ := hK b hb
  refine MW.of ok_Bath_haveFriend (Nat.le_of_ble_eq_true rfl) ?_
  refine cp_run 40 (fun _ => false) ck_Bath_haveFriend ?_
  simp only [cp_vc, cp_vs, cp_jm, cp_ent_en, cp_en_int, cp_en_ref, cp_en_ret, cp_en_long, cp_en_nil, cp_s1_at, cp_s2_at, cp_nl_int, cp_nl_ref, cp_nl_long, cp_nl_none, cp_pop_0, cp_pop_s, reduceIte, if_true, if_false, Bool.false_eq_true, Bool.true_eq_false, false_implies, implies_true, forall_const, true_implies, true_and, and_true, and_self, true_or, or_true, false_or, or_false, Value.category, List.length_cons, List.length_nil, Option.toList_some, Option.toList_none, List.cons_append, List.nil_append, List.append_nil, Prod.mk.injEq, Nat.add_zero, Nat.zero_add, Nat.reduceAdd, Nat.reduceSub, Nat.reduceEqDiff, Nat.reduceLeDiff, Nat.reduceLT, Nat.le_refl, beq_self_eq_true, Nat.reduceBEq, ne_eq, not_true_eq_false, not_false_eq_true, Int32.reduceAdd, Int32.reduceSub, Int32.reduceMul, Int32.reduceLE, Int32.reduceLT, Int32.reduceToNatClampNeg, b01_0, b01_1, ne_2_0, ne_3_0, ne_4_0, ne_5_0, ne_6_0, ne_m1_0, ne_m2_0, b01_01, b01_n, lt_m2, lt_m1, le_m2, le_m1, Classical.not_not, j_Bath_haveFriend_0, b_Bath_haveFriend_0, j_Bath_haveFriend_20, b_Bath_haveFriend_20, j_Bath_haveFriend_21, b_Bath_haveFriend_21, an_0, an_1, cl_0, cl_1, ne_0_1, ne_1_0, pp_15_4, sh_15, sh_26, vi_0, vi_1, vin (show a < 6 by omega) (by omega), ncl (show a < 1000 by omega), vin (show b < 6 by omega) (by omega), ncl (show b < 1000 by omega), k1, j1, and_0 k2]
  refine ⟨fun c => ?_, fun c => ?_⟩
  · rw [if_pos c] at h
    exact h
  · rw [if_neg c] at h
    exact h
end Bath1
