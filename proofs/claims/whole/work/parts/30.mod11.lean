section Mod11
variable {g : cp_G} {d : Nat} {sh : cp_H} {I : cp_I} {J : cp_J} {P : cp_P} {Q : cp_QT} {t u r x : Nat}
/-- m cells of f from a on, copied to e from i on -/
def cpy (I : cp_I) (f a e i m : Nat) : cp_I := fun b k => if b = e ∧ i ≤ k ∧ k < i + m then I f (a + (k - i)) else I b k
theorem cpy_0 (I : cp_I) (f a e i : Nat) : cpy I f a e i 0 = I := by
  funext b k
  have : ¬ (b = e ∧ i ≤ k ∧ k < i + 0) := by omega
  simp only [cpy, this, if_false]
theorem cpy_s (I : cp_I) (f a e i m : Nat) : cp_u (cpy I f a e i m) e (i + m) (I f (a + m)) = cpy I f a e i (m + 1) := by
  funext b k
  unfold cp_u cpy
  by_cases h : b = e ∧ k = i + m
  · obtain ⟨h1, h2⟩ := h
    subst h1 h2
    rw [if_pos ⟨rfl, rfl⟩, if_pos ⟨rfl, by omega, by omega⟩]
    congr 1
    omega
  · rw [if_neg h]
    by_cases h2 : b = e ∧ i ≤ k ∧ k < i + m
    · rw [if_pos h2, if_pos ⟨h2.1, h2.2.1, by omega⟩]
    · rw [if_neg h2, if_neg]
      rintro ⟨q1, q2, q3⟩
      exact h2 ⟨q1, q2, by
        have : k ≠ i + m := fun z => h ⟨q1, z⟩
        omega⟩
theorem cpy_o (I : cp_I) (f a e i m : Nat) {b : Nat} (h : b ≠ e) (k : Nat) : cpy I f a e i m b k = I b k := by simp [cpy, h]
theorem lp_Mod_copy {f a e i n nf ne : Nat} (hf : cp_sh SH f = (0, nf)) (he : cp_sh SH e = (0, ne)) (hne : f ≠ e) (ha : a + n ≤ nf) (hi : i + n ≤ ne) (hnf : nf < 1000) (hnn : ne < 1000) : ∀ (m k : Nat) (L : cp_Lo), k + m = n → L 0 = some (.ref f) → L 1 = some (.int (nI a)) → L 2 = some (.ref e) → L 3 = some (.int (nI i)) → L 4 = some (.int (nI n)) → L 5 = some (.int (nI k)) →
    Q none SH (cpy I f a e i n) J P → RW g false (d + 1) 0 0 m_Mod_copy 0 0 3 L [] SH (cpy I f a e i k) J P Q := by
  intro m
  induction m with
  | zero =>
    intro k L hk h0 h1 h2 h3 h4 h5 hq
    have c : nI n ≤ nI k := nI_le (by omega) (by omega)
    refine cp_run 40 (fun t => t == 3) ck_Mod_copy ?_
    simp only [cp_vc, cp_vs, cp_jm, cp_ent_en, cp_en_int, cp_en_ref, cp_en_ret, cp_en_long, cp_en_nil, cp_s1_at, cp_s2_at, cp_nl_int, cp_nl_ref, cp_nl_long, cp_nl_none, cp_pop_0, cp_pop_s, reduceIte, if_true, if_false, Bool.false_eq_true, Bool.true_eq_false, false_implies, implies_true, forall_const, true_implies, true_and, and_true, and_self, true_or, or_true, false_or, or_false, Value.category, List.length_cons, List.length_nil, Option.toList_some, Option.toList_none, List.cons_append, List.nil_append, List.append_nil, Prod.mk.injEq, Nat.add_zero, Nat.zero_add, Nat.reduceAdd, Nat.reduceSub, Nat.reduceEqDiff, Nat.reduceLeDiff, Nat.reduceLT, Nat.le_refl, beq_self_eq_true, Nat.reduceBEq, ne_eq, not_true_eq_false, not_false_eq_true, Int32.reduceAdd, Int32.reduceSub, Int32.reduceMul, Int32.reduceLE, Int32.reduceLT, Int32.reduceToNatClampNeg, b01_0, b01_1, ne_2_0, ne_3_0, ne_4_0, ne_5_0, ne_6_0, ne_m1_0, ne_m2_0, b01_01, b01_n, lt_m2, lt_m1, le_m2, le_m1, Classical.not_not, j_Mod_copy_0, b_Mod_copy_0, j_Mod_copy_3, b_Mod_copy_3, j_Mod_copy_28, b_Mod_copy_28, an_0, an_1, cl_0, ne_0_1, ne_1_0, vi_0, h0, h1, h2, h3, h4, h5, c]
    rw [Nat.add_zero] at hk
    rw [hk]
    exact hq
  | succ m ih =>
    intro k L hk h0 h1 h2 h3 h4 h5 hq
    have c : ¬ nI n ≤ nI k := nI_ge (by omega) (by omega)
    refine cp_run 40 (fun t => t == 3) ck_Mod_copy ?_
    simp only [cp_vc, cp_vs, cp_jm, cp_ent_en, cp_en_int, cp_en_ref, cp_en_ret, cp_en_long, cp_en_nil, cp_s1_at, cp_s2_at, cp_nl_int, cp_nl_ref, cp_nl_long, cp_nl_none, cp_pop_0, cp_pop_s, reduceIte, if_true, if_false, Bool.false_eq_true, Bool.true_eq_false, false_implies, implies_true, forall_const, true_implies, true_and, and_true, and_self, true_or, or_true, false_or, or_false, Value.category, List.length_cons, List.length_nil, Option.toList_some, Option.toList_none, List.cons_append, List.nil_append, List.append_nil, Prod.mk.injEq, Nat.add_zero, Nat.zero_add, Nat.reduceAdd, Nat.reduceSub, Nat.reduceEqDiff, Nat.reduceLeDiff, Nat.reduceLT, Nat.le_refl, beq_self_eq_true, Nat.reduceBEq, ne_eq, not_true_eq_false, not_false_eq_true, Int32.reduceAdd, Int32.reduceSub, Int32.reduceMul, Int32.reduceLE, Int32.reduceLT, Int32.reduceToNatClampNeg, b01_0, b01_1, ne_2_0, ne_3_0, ne_4_0, ne_5_0, ne_6_0, ne_m1_0, ne_m2_0, b01_01, b01_n, lt_m2, lt_m1, le_m2, le_m1, Classical.not_not, j_Mod_copy_0, b_Mod_copy_0, j_Mod_copy_3, b_Mod_copy_3, j_Mod_copy_28, b_Mod_copy_28, an_0, an_1, cl_0, ne_0_1, ne_1_0, vi_0, h0, h1, h2, h3, h4, h5, c, hf, he, nI_add, nI_1, vin (show i + k < ne by omega) hnn, vin (show a + k < nf by omega) hnf, ncl (show i + k < 1000 by omega), ncl (show a + k < 1000 by omega), cpy_o I f a e i k hne, cpy_s]
    refine ih (k + 1) _ (by omega) ?_ ?_ ?_ ?_ ?_ ?_ hq <;> simp [cp_s1_at, cp_nl_int, cp_nl_ref, h0, h1, h2, h3, h4]
theorem c_Mod_copy {f a e i n nf ne : Nat} (hf : cp_sh SH f = (0, nf)) (he : cp_sh SH e = (0, ne)) (hne : f ≠ e) (ha : a + n ≤ nf) (hi : i + n ≤ ne) (hnf : nf < 1000) (hnn : ne < 1000) (h : Q none SH (cpy I f a e i n) J P) : MW g false (d + 1) 0 0 m_Mod_copy [.ref f, .int (nI a), .ref e, .int (nI i), .int (nI n)] SH I J P Q := by
  refine MW.of ok_Mod_copy (Nat.le_of_ble_eq_true rfl) ?_
  refine cp_run 20 (fun t => t == 3) ck_Mod_copy ?_
  simp only [cp_vc, cp_vs, cp_jm, cp_ent_en, cp_en_int, cp_en_ref, cp_en_ret, cp_en_long, cp_en_nil, cp_s1_at, cp_s2_at, cp_nl_int, cp_nl_ref, cp_nl_long, cp_nl_none, cp_pop_0, cp_pop_s, reduceIte, if_true, if_false, Bool.false_eq_true, Bool.true_eq_false, false_implies, implies_true, forall_const, true_implies, true_and, and_true, and_self, true_or, or_true, false_or, or_false, Value.category, List.length_cons, List.length_nil, Option.toList_some, Option.toList_none, List.cons_append, List.nil_append, List.append_nil, Prod.mk.injEq, Nat.add_zero, Nat.zero_add, Nat.reduceAdd, Nat.reduceSub, Nat.reduceEqDiff, Nat.reduceLeDiff, Nat.reduceLT, Nat.le_refl, beq_self_eq_true, Nat.reduceBEq, ne_eq, not_true_eq_false, not_false_eq_true, Int32.reduceAdd, Int32.reduceSub, Int32.reduceMul, Int32.reduceLE, Int32.reduceLT, Int32.reduceToNatClampNeg, b01_0, b01_1, ne_2_0, ne_3_0, ne_4_0, ne_5_0, ne_6_0, ne_m1_0, ne_m2_0, b01_01, b01_n, lt_m2, lt_m1, le_m2, le_m1, Classical.not_not, j_Mod_copy_0, b_Mod_copy_0, j_Mod_copy_3, b_Mod_copy_3, j_Mod_copy_28, b_Mod_copy_28, an_0, an_1, cl_0, ne_0_1, ne_1_0, vi_0]
  have hl := lp_Mod_copy (g := g) (d := d) (I := I) (J := J) (P := P) (Q := Q) hf he hne ha hi hnf hnn n 0 (cp_s1 (cp_ent [.ref f, .int (nI a), .ref e, .int (nI i), .int (nI n)]) 5 (.int 0)) (by omega) (by simp [cp_s1_at, cp_ent_en, cp_en_int, cp_en_ref]) (by simp [cp_s1_at, cp_ent_en, cp_en_int, cp_en_ref]) (by simp [cp_s1_at, cp_ent_en, cp_en_int, cp_en_ref]) (by simp [cp_s1_at, cp_ent_en, cp_en_int, cp_en_ref]) (by simp [cp_s1_at, cp_ent_en, cp_en_int, cp_en_ref, cp_nl_int]) (by simp [cp_s1_at, nI_0]) h
  rw [cpy_0] at hl
  exact hl
/-- the rows of undos, shifted -/
def shf (I : cp_I) (m : Nat) : cp_I := fun b k => if b = 50 ∧ k < m then I 50 (k + 39) else I b k
theorem shf_0 (I : cp_I) : shf I 0 = I := by funext b k; simp [shf]
theorem shf_o (I : cp_I) (m : Nat) {b : Nat} (h : b ≠ 50) (k : Nat) : shf I m b k = I b k := by simp [shf, h]
theorem shf_r (I : cp_I) (m : Nat) : shf I m 50 (m + 39) = I 50 (m + 39) := by
  have : ¬ m + 39 < m := by omega
  simp [shf, this]
theorem shf_s (I : cp_I) (m : Nat) : cp_u (shf I m) 50 m (I 50 (m + 39)) = shf I (m + 1) := by
  funext b k
  unfold cp_u shf
  by_cases h : b = 50 ∧ k = m
  · obtain ⟨h1, h2⟩ := h
    subst h1 h2
    rw [if_pos ⟨rfl, rfl⟩, if_pos ⟨rfl, by omega⟩]
  · rw [if_neg h]
    by_cases h2 : b = 50 ∧ k < m
    · rw [if_pos h2, if_pos ⟨h2.1, by omega⟩]
    · rw [if_neg h2, if_neg]
      rintro ⟨q1, q2⟩
      exact h2 ⟨q1, by
        have : k ≠ m := fun z => h ⟨q1, z⟩
        omega⟩
/-- note(): how it is now is kept -/
def nte (I : cp_I) (q : Nat) : cp_I := if q = 16 then cp_u (cpy (cp_u (shf I 585) 44 20 (nI 15)) 49 0 50 585 39) 44 20 (nI 16) else cp_u (cpy I 49 0 50 (39 * q) 39) 44 20 (nI (q + 1))
set_option maxRecDepth 20000 in
theorem lp_Mod_note {q : Nat} (hu : I 44 20 = nI 16) : ∀ (m k : Nat) (L : cp_Lo), k + m = 585 → L 0 = some (.ref 44) → L 1 = some (.int (nI k)) →
    Q none SH (nte I 16) J (PP t u r x) → RW g false (d + 2) 0 0 m_Mod_note 0 0 11 L [] SH (shf I k) J (PP t u r x) Q := by
  intro m
  induction m with
  | zero =>
    intro k L hk h0 h1 hq
    have c : (585 : Int32) ≤ nI k := nI_le (a := 585) (by omega) (by omega)
    have e1 : nI 16 - 1 = nI 15 := by decide +kernel
    have e2 : (39 : Int32) * nI 15 = nI 585 := by decide +kernel
    have e3 : nI 15 + 1 = nI 16 := by decide +kernel
    rw [Nat.add_zero] at hk
    refine cp_run 60 (fun t => t == 11) ck_Mod_note ?_
    simp only [cp_vc, cp_vs, cp_jm, cp_ent_en, cp_en_int, cp_en_ref, cp_en_ret, cp_en_long, cp_en_nil, cp_s1_at, cp_s2_at, cp_nl_int, cp_nl_ref, cp_nl_long, cp_nl_none, cp_pop_0, cp_pop_s, reduceIte, if_true, if_false, Bool.false_eq_true, Bool.true_eq_false, false_implies, implies_true, forall_const, true_implies, true_and, and_true, and_self, true_or, or_true, false_or, or_false, Value.category, List.length_cons, List.length_nil, Option.toList_some, Option.toList_none, List.cons_append, List.nil_append, List.append_nil, Prod.mk.injEq, Nat.add_zero, Nat.zero_add, Nat.reduceAdd, Nat.reduceSub, Nat.reduceEqDiff, Nat.reduceLeDiff, Nat.reduceLT, Nat.le_refl, beq_self_eq_true, Nat.reduceBEq, ne_eq, not_true_eq_false, not_false_eq_true, Int32.reduceAdd, Int32.reduceSub, Int32.reduceMul, Int32.reduceLE, Int32.reduceLT, Int32.reduceToNatClampNeg, b01_0, b01_1, ne_2_0, ne_3_0, ne_4_0, ne_5_0, ne_6_0, ne_m1_0, ne_m2_0, b01_01, b01_n, lt_m2, lt_m1, le_m2, le_m1, Classical.not_not, j_Mod_note_0, b_Mod_note_0, j_Mod_note_11, b_Mod_note_11, j_Mod_note_39, b_Mod_note_39, j_Mod_note_49, b_Mod_note_49, an_0, an_1, an_16, cl_0, cl_1, cl_16, cl_39, ne_0_1, ne_1_0, pp_44_17, pp_44_18, sh_44, sh_49, sh_50, vi_0, vi_1, vi_16, vi_39, h0, h1, c, shf_o I k (show (44 : Nat) ≠ 50 by omega), hu, e1, cp_u_at, e2]
    refine c_Mod_copy (f := 49) (a := 0) (e := 50) (i := 585) (n := 39) sh_49 sh_50 (by omega) (by omega) (by omega) (by omega) (by omega) ?_
    simp only [cp_kk, cp_vc, cp_vs, cp_jm, cp_ent_en, cp_en_int, cp_en_ref, cp_en_ret, cp_en_long, cp_en_nil, cp_s1_at, cp_s2_at, cp_nl_int, cp_nl_ref, cp_nl_long, cp_nl_none, cp_pop_0, cp_pop_s, reduceIte, if_true, if_false, Bool.false_eq_true, Bool.true_eq_false, false_implies, implies_true, forall_const, true_implies, true_and, and_true, and_self, true_or, or_true, false_or, or_false, Value.category, List.length_cons, List.length_nil, Option.toList_some, Option.toList_none, List.cons_append, List.nil_append, List.append_nil, Prod.mk.injEq, Nat.add_zero, Nat.zero_add, Nat.reduceAdd, Nat.reduceSub, Nat.reduceEqDiff, Nat.reduceLeDiff, Nat.reduceLT, Nat.le_refl, beq_self_eq_true, Nat.reduceBEq, ne_eq, not_true_eq_false, not_false_eq_true, Int32.reduceAdd, Int32.reduceSub, Int32.reduceMul, Int32.reduceLE, Int32.reduceLT, Int32.reduceToNatClampNeg, b01_0, b01_1, ne_2_0, ne_3_0, ne_4_0, ne_5_0, ne_6_0, ne_m1_0, ne_m2_0, b01_01, b01_n, lt_m2, lt_m1, le_m2, le_m1, Classical.not_not, Bool.or_false, Bool.false_or, Bool.true_or, Bool.or_true, j_Mod_note_0, b_Mod_note_0, j_Mod_note_11, b_Mod_note_11, j_Mod_note_39, b_Mod_note_39, j_Mod_note_49, b_Mod_note_49, an_0, an_1, an_16, cl_0, cl_1, cl_16, cl_39, ne_0_1, ne_1_0, pp_44_17, pp_44_18, sh_44, sh_49, sh_50, vi_0, vi_1, vi_16, vi_39, h0, h1, cpy_o _ 49 0 50 585 39 (show (44 : Nat) ≠ 50 by omega), cp_u_at, e3]
    unfold nte at hq
    rw [if_pos rfl] at hq
    rw [hk]
    exact hq
  | succ m ih =>
    intro k L hk h0 h1 hq
    have c : ¬ (585 : Int32) ≤ nI k := nI_ge (b := 585) (by omega) (by omega)
    have e1 : nI k + 39 = nI (k + 39) := nI_add k 39
    refine cp_run 60 (fun t => t == 11) ck_Mod_note ?_
    simp only [cp_vc, cp_vs, cp_jm, cp_ent_en, cp_en_int, cp_en_ref, cp_en_ret, cp_en_long, cp_en_nil, cp_s1_at, cp_s2_at, cp_nl_int, cp_nl_ref, cp_nl_long, cp_nl_none, cp_pop_0, cp_pop_s, reduceIte, if_true, if_false, Bool.false_eq_true, Bool.true_eq_false, false_implies, implies_true, forall_const, true_implies, true_and, and_true, and_self, true_or, or_true, false_or, or_false, Value.category, List.length_cons, List.length_nil, Option.toList_some, Option.toList_none, List.cons_append, List.nil_append, List.append_nil, Prod.mk.injEq, Nat.add_zero, Nat.zero_add, Nat.reduceAdd, Nat.reduceSub, Nat.reduceEqDiff, Nat.reduceLeDiff, Nat.reduceLT, Nat.le_refl, beq_self_eq_true, Nat.reduceBEq, ne_eq, not_true_eq_false, not_false_eq_true, Int32.reduceAdd, Int32.reduceSub, Int32.reduceMul, Int32.reduceLE, Int32.reduceLT, Int32.reduceToNatClampNeg, b01_0, b01_1, ne_2_0, ne_3_0, ne_4_0, ne_5_0, ne_6_0, ne_m1_0, ne_m2_0, b01_01, b01_n, lt_m2, lt_m1, le_m2, le_m1, Classical.not_not, j_Mod_note_0, b_Mod_note_0, j_Mod_note_11, b_Mod_note_11, j_Mod_note_39, b_Mod_note_39, j_Mod_note_49, b_Mod_note_49, an_0, an_1, an_16, cl_0, cl_1, cl_16, cl_39, ne_0_1, ne_1_0, pp_44_17, pp_44_18, sh_44, sh_49, sh_50, vi_0, vi_1, vi_16, vi_39, h0, h1, c, e1, vin (show k < 624 by omega) (by omega), vin (show k + 39 < 624 by omega) (by omega), ncl (show k < 1000 by omega), ncl (show k + 39 < 1000 by omega), shf_r, shf_s, nI_1]
    refine ih (k + 1) _ (by omega) ?_ ?_ hq <;> simp [cp_s1_at, cp_nl_int, cp_nl_ref, h0]
theorem c_Mod_note {q : Nat} (hq16 : q ≤ 16) (hu : I 44 20 = nI q) (h : Q none SH (nte I q) J (PP t u r x)) : MW g false (d + 2) 0 0 m_Mod_note [.ref 44] SH I J (PP t u r x) Q := by
  refine MW.of ok_Mod_note (Nat.le_of_ble_eq_true rfl) ?_
  have e0 : (nI q = 16) = (q = 16) := eqN (show q < 1000 by omega) (show 16 < 1000 by omega)
  have e2 : (39 : Int32) * nI q = nI (39 * q) := by rw [show (39 : Int32) = nI 39 from rfl, pk_mul]
  refine cp_run 60 (fun t => t == 11) ck_Mod_note ?_
  simp only [cp_vc, cp_vs, cp_jm, cp_ent_en, cp_en_int, cp_en_ref, cp_en_ret, cp_en_long, cp_en_nil, cp_s1_at, cp_s2_at, cp_nl_int, cp_nl_ref, cp_nl_long, cp_nl_none, cp_pop_0, cp_pop_s, reduceIte, if_true, if_false, Bool.false_eq_true, Bool.true_eq_false, false_implies, implies_true, forall_const, true_implies, true_and, and_true, and_self, true_or, or_true, false_or, or_false, Value.category, List.length_cons, List.length_nil, Option.toList_some, Option.toList_none, List.cons_append, List.nil_append, List.append_nil, Prod.mk.injEq, Nat.add_zero, Nat.zero_add, Nat.reduceAdd, Nat.reduceSub, Nat.reduceEqDiff, Nat.reduceLeDiff, Nat.reduceLT, Nat.le_refl, beq_self_eq_true, Nat.reduceBEq, ne_eq, not_true_eq_false, not_false_eq_true, Int32.reduceAdd, Int32.reduceSub, Int32.reduceMul, Int32.reduceLE, Int32.reduceLT, Int32.reduceToNatClampNeg, b01_0, b01_1, ne_2_0, ne_3_0, ne_4_0, ne_5_0, ne_6_0, ne_m1_0, ne_m2_0, b01_01, b01_n, lt_m2, lt_m1, le_m2, le_m1, Classical.not_not, j_Mod_note_0, b_Mod_note_0, j_Mod_note_11, b_Mod_note_11, j_Mod_note_39, b_Mod_note_39, j_Mod_note_49, b_Mod_note_49, an_0, an_1, an_16, cl_0, cl_1, cl_16, cl_39, ne_0_1, ne_1_0, pp_44_17, pp_44_18, sh_44, sh_49, sh_50, vi_0, vi_1, vi_16, vi_39, hu, e0, e2]
  refine ⟨fun c => ?_, fun c => ?_⟩
  · refine c_Mod_copy (f := 49) (a := 0) (e := 50) (i := 39 * q) (n := 39) sh_49 sh_50 (by omega) (by omega) (by omega) (by omega) (by omega) ?_
    simp only [cp_kk, cp_vc, cp_vs, cp_jm, cp_ent_en, cp_en_int, cp_en_ref, cp_en_ret, cp_en_long, cp_en_nil, cp_s1_at, cp_s2_at, cp_nl_int, cp_nl_ref, cp_nl_long, cp_nl_none, cp_pop_0, cp_pop_s, reduceIte, if_true, if_false, Bool.false_eq_true, Bool.true_eq_false, false_implies, implies_true, forall_const, true_implies, true_and, and_true, and_self, true_or, or_true, false_or, or_false, Value.category, List.length_cons, List.length_nil, Option.toList_some, Option.toList_none, List.cons_append, List.nil_append, List.append_nil, Prod.mk.injEq, Nat.add_zero, Nat.zero_add, Nat.reduceAdd, Nat.reduceSub, Nat.reduceEqDiff, Nat.reduceLeDiff, Nat.reduceLT, Nat.le_refl, beq_self_eq_true, Nat.reduceBEq, ne_eq, not_true_eq_false, not_false_eq_true, Int32.reduceAdd, Int32.reduceSub, Int32.reduceMul, Int32.reduceLE, Int32.reduceLT, Int32.reduceToNatClampNeg, b01_0, b01_1, ne_2_0, ne_3_0, ne_4_0, ne_5_0, ne_6_0, ne_m1_0, ne_m2_0, b01_01, b01_n, lt_m2, lt_m1, le_m2, le_m1, Classical.not_not, Bool.or_false, Bool.false_or, Bool.true_or, Bool.or_true, j_Mod_note_0, b_Mod_note_0, j_Mod_note_11, b_Mod_note_11, j_Mod_note_39, b_Mod_note_39, j_Mod_note_49, b_Mod_note_49, an_0, an_1, an_16, cl_0, cl_1, cl_16, cl_39, ne_0_1, ne_1_0, pp_44_17, pp_44_18, sh_44, sh_49, sh_50, vi_0, vi_1, vi_16, vi_39, cpy_o I 49 0 50 (39 * q) 39 (show (44 : Nat) ≠ 50 by omega), hu, nI_1]
    unfold nte at h
    rw [if_neg c] at h
    exact h
  · subst c
    have hl := lp_Mod_note (g := g) (d := d) (I := I) (J := J) (Q := Q) (t := t) (u := u) (r := r) (x := x) (q := 0) hu 585 0 (cp_s1 (cp_ent [.ref 44]) 1 (.int 0)) (by omega) (by simp [cp_s1_at, cp_ent_en, cp_en_int, cp_en_ref, cp_nl_ref]) (by simp [cp_s1_at, nI_0]) h
    rw [shf_0] at hl
    exact hl
theorem c_Mod_tie {ρ a b fr sz : Nat} {by_ : Int32} (hρ : cp_sh SH ρ = (0, sz)) (hz : sz < 1000) (ha : a < 6) (hb : b < 6) (hs : fr + 36 ≤ sz) (h : Q none SH (cp_u (cp_u I ρ (fr + 6 * a + b) by_) ρ (fr + 6 * b + a) by_) J P) : MW g false (d + 1) 0 0 m_Mod_tie [.ref 44, .ref ρ, .int (nI fr), .int (nI a), .int (nI b), .int by_] SH I J P Q := by
  refine MW.of ok_Mod_tie (Nat.le_of_ble_eq_true rfl) ?_
  have e1 : nI fr + (6 : Int32) * nI a + nI b = nI (fr + 6 * a + b) := by rw [show (6 : Int32) = nI 6 from rfl, pk_mul, nI_add, nI_add]
  have e2 : nI fr + (6 : Int32) * nI b + nI a = nI (fr + 6 * b + a) := by rw [show (6 : Int32) = nI 6 from rfl, pk_mul, nI_add, nI_add]
  refine cp_run 60 (fun _ => false) ck_Mod_tie ?_
  simp only [cp_vc, cp_vs, cp_jm, cp_ent_en, cp_en_int, cp_en_ref, cp_en_ret, cp_en_long, cp_en_nil, cp_s1_at, cp_s2_at, cp_nl_int, cp_nl_ref, cp_nl_long, cp_nl_none, cp_pop_0, cp_pop_s, reduceIte, if_true, if_false, Bool.false_eq_true, Bool.true_eq_false, false_implies, implies_true, forall_const, true_implies, true_and, and_true, and_self, true_or, or_true, false_or, or_false, Value.category, List.length_cons, List.length_nil, Option.toList_some, Option.toList_none, List.cons_append, List.nil_append, List.append_nil, Prod.mk.injEq, Nat.add_zero, Nat.zero_add, Nat.reduceAdd, Nat.reduceSub, Nat.reduceEqDiff, Nat.reduceLeDiff, Nat.reduceLT, Nat.le_refl, beq_self_eq_true, Nat.reduceBEq, ne_eq, not_true_eq_false, not_false_eq_true, Int32.reduceAdd, Int32.reduceSub, Int32.reduceMul, Int32.reduceLE, Int32.reduceLT, Int32.reduceToNatClampNeg, b01_0, b01_1, ne_2_0, ne_3_0, ne_4_0, ne_5_0, ne_6_0, ne_m1_0, ne_m2_0, b01_01, b01_n, lt_m2, lt_m1, le_m2, le_m1, Classical.not_not, j_Mod_tie_0, b_Mod_tie_0, an_0, an_1, an_6, cl_6, ne_0_1, ne_0_6, ne_1_0, ne_1_6, ne_6_0, ne_6_1, vi_6, hρ, e1, e2, vin (show fr + 6 * a + b < sz by omega) hz, vin (show fr + 6 * b + a < sz by omega) hz, ncl (show fr + 6 * a + b < 1000 by omega), ncl (show fr + 6 * b + a < 1000 by omega)]
  exact h
end Mod11
