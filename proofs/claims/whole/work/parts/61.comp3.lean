section Comp3
variable {g : cp_G} {d : Nat} {sh : cp_H} {I : cp_I} {J : cp_J} {P : cp_P} {Q : cp_QT} {t u r x n : Nat}
/-! bits of a long -/
theorem lor_g (a b : Nat) : lN a ||| lN b = lN (a ||| b) := by
  apply Int64.toBitVec_inj.1
  simp [lN, BitVec.ofNat_or]
theorem lsh1 {k : Nat} (hk : k < 64) : (1 : Int64) <<< ((nI k).toInt64 &&& 63) = lN (2 ^ k) := by
  have key : ∀ k : Nat, k < 64 → (1 : Int64) <<< ((nI k).toInt64 &&& 63) = lN (2 ^ k) := by decide +kernel
  exact key k hk
theorem lshm {k : Nat} (hk : k < 64) : (((nI k).toInt64 &&& 63).toBitVec.smod 64#64).toNat = k := by
  have key : ∀ k : Nat, k < 64 → (((nI k).toInt64 &&& 63).toBitVec.smod 64#64).toNat = k := by decide +kernel
  exact key k hk
theorem lbit1 {m k : Nat} (hk : k < 64) : (lN m >>> ((nI k).toInt64 &&& 63)) &&& 1 = if m.testBit k = true then 1 else 0 := by
  apply Int64.toBitVec_inj.1
  have e : (lN m >>> ((nI k).toInt64 &&& 63)).toBitVec = (BitVec.ofNat 64 m).sshiftRight k := by
    show (lN m).toBitVec.sshiftRight' (((nI k).toInt64 &&& 63).toBitVec.smod 64#64) = _
    rw [BitVec.sshiftRight_eq', lshm hk]
    rfl
  rw [Int64.toBitVec_and, e]
  apply BitVec.eq_of_getLsbD_eq
  intro i hi
  rw [BitVec.getLsbD_and, BitVec.getLsbD_sshiftRight]
  by_cases hi0 : i = 0
  · subst hi0
    by_cases h : m.testBit k = true
    · rw [if_pos h]
      simp only [Nat.add_zero, hk, if_true, BitVec.getLsbD_ofNat, h]
      decide
    · rw [if_neg h]
      simp only [Nat.add_zero, hk, if_true, BitVec.getLsbD_ofNat, h]
      decide
  · have e1 : (1 : Int64).toBitVec.getLsbD i = false := by
      show (1#64).getLsbD i = false
      simp [hi0]
    rw [e1, Bool.and_false]
    by_cases h : m.testBit k = true
    · rw [if_pos h]
      exact e1.symm
    · rw [if_neg h]
      simp
theorem l1_0 {c : Prop} {dc : Decidable c} : ((if c then (1 : Int64) else 0) = 0) = ¬ c := by
  by_cases h : c
  · simp [h]
  · simp [h]
theorem lbit0 (m : Nat) : (lN m &&& 1 : Int64) = if m.testBit 0 = true then 1 else 0 := by
  apply Int64.toBitVec_inj.1
  rw [Int64.toBitVec_and]
  apply BitVec.eq_of_getLsbD_eq
  intro i hi
  rw [BitVec.getLsbD_and]
  by_cases hi0 : i = 0
  · subst hi0
    by_cases h : m.testBit 0 = true
    · rw [if_pos h, show (lN m).toBitVec = BitVec.ofNat 64 m from rfl]
      simp only [BitVec.getLsbD_ofNat, h]
      decide
    · rw [if_neg h, show (lN m).toBitVec = BitVec.ofNat 64 m from rfl]
      simp only [BitVec.getLsbD_ofNat, h]
      decide
  · have e1 : (1 : Int64).toBitVec.getLsbD i = false := by
      show (1#64).getLsbD i = false
      simp [hi0]
    rw [e1, Bool.and_false]
    by_cases h : m.testBit 0 = true
    · rw [if_pos h]
      exact e1.symm
    · rw [if_neg h]
      simp
/-! the next to come in -/
def sp_nc (σ set ins : Nat) : Nat → Nat → Option Nat := sp_fst (fun b => (set &&& (63 - ins)).testBit b && σ.testBit (ins ||| 2 ^ b))
theorem lp_Comp_nextComer {σ set ins : Nat} (hs : set < 64) (hi : ins < 64) : ∀ (m b : Nat) (L : cp_Lo), b + m = 6 → L 0 = some (.ref 37) → L 1 = some (.long (lN σ)) → L 3 = some (.int (nI set)) → L 4 = some (.int (nI ins)) → L 5 = some (.int (nI b)) →
    Q (some (.int (oI (sp_nc σ set ins m b)))) SH I J (PP t u r x) → RW g false (d + 1) 0 0 m_Comp_nextComer 0 0 3 L [] SH I J (PP t u r x) Q := by
  intro m
  induction m with
  | zero =>
    intro b L hb l0 l1 l3 l4 l5 hq
    have c1 : (6 : Int32) ≤ nI b := nI_le (a := 6) (by omega) (by omega)
    refine cp_run 20 (fun t => t == 3) ck_Comp_nextComer ?_
    simp only [cp_vc, cp_vs, cp_jm, cp_ent_en, cp_en_int, cp_en_ref, cp_en_ret, cp_en_long, cp_en_nil, cp_s1_at, cp_s2_at, cp_nl_int, cp_nl_ref, cp_nl_long, cp_nl_none, cp_pop_0, cp_pop_s, reduceIte, if_true, if_false, Bool.false_eq_true, Bool.true_eq_false, false_implies, implies_true, forall_const, true_implies, true_and, and_true, and_self, true_or, or_true, false_or, or_false, Value.category, List.length_cons, List.length_nil, Option.toList_some, Option.toList_none, List.cons_append, List.nil_append, List.append_nil, Prod.mk.injEq, Nat.add_zero, Nat.zero_add, Nat.reduceAdd, Nat.reduceSub, Nat.reduceEqDiff, Nat.reduceLeDiff, Nat.reduceLT, Nat.le_refl, beq_self_eq_true, Nat.reduceBEq, ne_eq, not_true_eq_false, not_false_eq_true, Int32.reduceAdd, Int32.reduceSub, Int32.reduceMul, Int32.reduceLE, Int32.reduceLT, Int32.reduceToNatClampNeg, b01_0, b01_1, ne_2_0, ne_3_0, ne_4_0, ne_5_0, ne_6_0, ne_m1_0, ne_m2_0, b01_01, b01_n, lt_m2, lt_m1, le_m2, le_m1, Classical.not_not, j_Comp_nextComer_0, b_Comp_nextComer_0, j_Comp_nextComer_3, b_Comp_nextComer_3, j_Comp_nextComer_45, b_Comp_nextComer_45, j_Comp_nextComer_51, b_Comp_nextComer_51, an_0, an_1, an_6, cl_0, cl_1, cl_6, ne_0_1, ne_0_6, ne_0_m1, ne_0_m2, ne_1_0, ne_1_6, ne_1_m1, ne_1_m2, ne_6_0, ne_6_1, ne_6_m1, ne_6_m2, ne_m1_0, ne_m1_1, ne_m1_6, ne_m1_m2, ne_m2_0, ne_m2_1, ne_m2_6, ne_m2_m1, vi_0, vi_1, vi_6, l0, l1, l3, l4, l5, c1]
    exact hq
  | succ m ih =>
    intro b L hb l0 l1 l3 l4 l5 hq
    have c1 : ¬ (6 : Int32) ≤ nI b := nI_ge (b := 6) (by omega) (by omega)
    have hpb := pow_lt64 (show b < 6 by omega)
    unfold sp_nc at hq
    rw [sp_fst] at hq
    refine cp_run 60 (fun t => t == 3) ck_Comp_nextComer ?_
    simp only [cp_vc, cp_vs, cp_jm, cp_ent_en, cp_en_int, cp_en_ref, cp_en_ret, cp_en_long, cp_en_nil, cp_s1_at, cp_s2_at, cp_nl_int, cp_nl_ref, cp_nl_long, cp_nl_none, cp_pop_0, cp_pop_s, reduceIte, if_true, if_false, Bool.false_eq_true, Bool.true_eq_false, false_implies, implies_true, forall_const, true_implies, true_and, and_true, and_self, true_or, or_true, false_or, or_false, Value.category, List.length_cons, List.length_nil, Option.toList_some, Option.toList_none, List.cons_append, List.nil_append, List.append_nil, Prod.mk.injEq, Nat.add_zero, Nat.zero_add, Nat.reduceAdd, Nat.reduceSub, Nat.reduceEqDiff, Nat.reduceLeDiff, Nat.reduceLT, Nat.le_refl, beq_self_eq_true, Nat.reduceBEq, ne_eq, not_true_eq_false, not_false_eq_true, Int32.reduceAdd, Int32.reduceSub, Int32.reduceMul, Int32.reduceLE, Int32.reduceLT, Int32.reduceToNatClampNeg, b01_0, b01_1, ne_2_0, ne_3_0, ne_4_0, ne_5_0, ne_6_0, ne_m1_0, ne_m2_0, b01_01, b01_n, lt_m2, lt_m1, le_m2, le_m1, Classical.not_not, j_Comp_nextComer_0, b_Comp_nextComer_0, j_Comp_nextComer_3, b_Comp_nextComer_3, j_Comp_nextComer_45, b_Comp_nextComer_45, j_Comp_nextComer_51, b_Comp_nextComer_51, an_0, an_1, an_6, cl_0, cl_1, cl_6, ne_0_1, ne_0_6, ne_0_m1, ne_0_m2, ne_1_0, ne_1_6, ne_1_m1, ne_1_m2, ne_6_0, ne_6_1, ne_6_m1, ne_6_m2, ne_m1_0, ne_m1_1, ne_m1_6, ne_m1_m2, ne_m2_0, ne_m2_1, ne_m2_6, ne_m2_m1, vi_0, vi_1, vi_6, l0, l1, l3, l4, l5, c1, sh1 (show b < 8 by omega), andn2_nI hs hi, bit_g (show b < 31 by omega), or_nI hi hpb, lbit1 (or_lt64 hi hpb), lg_cmp_eq, l1_0, nI_1]
    refine ⟨fun c => ?_, fun c => ⟨fun c2 => ?_, fun c2 => ?_⟩⟩
    · rw [if_neg (by simp only [c, Bool.false_and]; decide)] at hq
      refine ih (b + 1) _ (by omega) ?_ ?_ ?_ ?_ ?_ hq <;> simp [cp_s1_at, cp_nl_int, cp_nl_ref, cp_nl_long, l0, l1, l3, l4]
    · rw [if_neg (by simp [c2])] at hq
      refine ih (b + 1) _ (by omega) ?_ ?_ ?_ ?_ ?_ hq <;> simp [cp_s1_at, cp_nl_int, cp_nl_ref, cp_nl_long, l0, l1, l3, l4]
    · have c' : (set &&& (63 - ins)).testBit b = true := by simpa using c
      have c2' : σ.testBit (ins ||| 2 ^ b) = true := by simpa using c2
      rw [if_pos (by rw [c', c2']; rfl)] at hq
      exact hq
theorem c_Comp_nextComer {σ set ins : Nat} (hs : set < 64) (hi : ins < 64) (h : Q (some (.int (oI (sp_nc σ set ins 6 0)))) SH I J (PP t u r x)) : MW g false (d + 1) 0 0 m_Comp_nextComer [.ref 37, .long (lN σ), .int (nI set), .int (nI ins)] SH I J (PP t u r x) Q := by
  refine MW.of ok_Comp_nextComer (Nat.le_of_ble_eq_true rfl) ?_
  refine cp_run 20 (fun t => t == 3) ck_Comp_nextComer ?_
  simp only [cp_vc, cp_vs, cp_jm, cp_ent_en, cp_en_int, cp_en_ref, cp_en_ret, cp_en_long, cp_en_nil, cp_s1_at, cp_s2_at, cp_nl_int, cp_nl_ref, cp_nl_long, cp_nl_none, cp_pop_0, cp_pop_s, reduceIte, if_true, if_false, Bool.false_eq_true, Bool.true_eq_false, false_implies, implies_true, forall_const, true_implies, true_and, and_true, and_self, true_or, or_true, false_or, or_false, Value.category, List.length_cons, List.length_nil, Option.toList_some, Option.toList_none, List.cons_append, List.nil_append, List.append_nil, Prod.mk.injEq, Nat.add_zero, Nat.zero_add, Nat.reduceAdd, Nat.reduceSub, Nat.reduceEqDiff, Nat.reduceLeDiff, Nat.reduceLT, Nat.le_refl, beq_self_eq_true, Nat.reduceBEq, ne_eq, not_true_eq_false, not_false_eq_true, Int32.reduceAdd, Int32.reduceSub, Int32.reduceMul, Int32.reduceLE, Int32.reduceLT, Int32.reduceToNatClampNeg, b01_0, b01_1, ne_2_0, ne_3_0, ne_4_0, ne_5_0, ne_6_0, ne_m1_0, ne_m2_0, b01_01, b01_n, lt_m2, lt_m1, le_m2, le_m1, Classical.not_not, j_Comp_nextComer_0, b_Comp_nextComer_0, j_Comp_nextComer_3, b_Comp_nextComer_3, j_Comp_nextComer_45, b_Comp_nextComer_45, j_Comp_nextComer_51, b_Comp_nextComer_51, an_0, an_1, an_6, cl_0, cl_1, cl_6, ne_0_1, ne_0_6, ne_0_m1, ne_0_m2, ne_1_0, ne_1_6, ne_1_m1, ne_1_m2, ne_6_0, ne_6_1, ne_6_m1, ne_6_m2, ne_m1_0, ne_m1_1, ne_m1_6, ne_m1_m2, ne_m2_0, ne_m2_1, ne_m2_6, ne_m2_m1, vi_0, vi_1, vi_6]
  refine lp_Comp_nextComer hs hi 6 0 _ (by omega) ?_ ?_ ?_ ?_ ?_ h <;> simp [cp_s1_at, cp_ent_en, cp_en_ref, cp_en_int, cp_en_long, cp_nl_ref, cp_nl_int, cp_nl_long, nI_0]
/-- one bit for each company from which the set can still come in -/
def sp_sts (S : Nat → Bool) (set : Nat) : Nat → Nat → Nat
  | 0, σ => σ
  | m + 1, σ => sp_sts S set m (if (decide (m &&& (63 - set) = 0) && (S m && (decide (m = set) || (sp_nc σ set m 6 0).isSome))) = true then σ ||| 2 ^ m else σ)
def pI : Nat → Int32
  | 0 => -1
  | m + 1 => nI m
theorem pI_dec (m : Nat) : nI m + (-1) = pI m := by
  cases m with
  | zero => decide +kernel
  | succ m => exact pk_m1 m
theorem oI_n {o : Option Nat} (h : ∀ b, o = some b → b < 1000) : (oI o = -2) = (o = none) := by
  cases o with
  | none => simp [oI]
  | some b =>
    have hb := h b rfl
    simp only [oI, eq_iff_iff, reduceCtorEq, iff_false]
    intro q
    have := nI_pos (n := b) (by omega)
    rw [q] at this
    exact this (by decide +kernel)
theorem sp_fst_b {p : Nat → Bool} : ∀ {m k b : Nat}, sp_fst p m k = some b → k ≤ b ∧ b < k + m ∧ p b = true
  | 0, k, b, h => by simp [sp_fst] at h
  | m + 1, k, b, h => by
    rw [sp_fst] at h
    split at h
    · simp only [Option.some.injEq] at h
      subst h
      exact ⟨Nat.le_refl _, by omega, by assumption⟩
    · obtain ⟨h1, h2, h3⟩ := sp_fst_b h
      exact ⟨by omega, by omega, h3⟩
theorem lp_Comp_stepsTo {set : Nat} (hc : cT I t n) (hs : set < 64) : ∀ (m σ : Nat) (L : cp_Lo), m ≤ 64 → L 0 = some (.ref 37) → L 1 = some (.ref 15) → L 2 = some (.int (nI set)) → L 3 = some (.long (lN σ)) → L 5 = some (.int (pI m)) →
    Q (some (.long (lN (sp_sts (cs I) set m σ)))) SH I J (PP t u r x) → RW g false (d + 3) 0 0 m_Comp_stepsTo 0 0 5 L [] SH I J (PP t u r x) Q := by
  intro m
  induction m with
  | zero =>
    intro σ L hm l0 l1 l2 l3 l5 hq
    simp only [pI] at l5
    refine cp_run 20 (fun t => t == 5) ck_Comp_stepsTo ?_
    rw [j_Comp_stepsTo_5, b_Comp_stepsTo_5]
    simp only [cp_vc, cp_vs, cp_jm, cp_ent_en, cp_en_int, cp_en_ref, cp_en_ret, cp_en_long, cp_en_nil, cp_s1_at, cp_s2_at, cp_nl_int, cp_nl_ref, cp_nl_long, cp_nl_none, cp_pop_0, cp_pop_s, reduceIte, if_true, if_false, Bool.false_eq_true, Bool.true_eq_false, false_implies, implies_true, forall_const, true_implies, true_and, and_true, and_self, true_or, or_true, false_or, or_false, Value.category, List.length_cons, List.length_nil, Option.toList_some, Option.toList_none, List.cons_append, List.nil_append, List.append_nil, Prod.mk.injEq, Nat.add_zero, Nat.zero_add, Nat.reduceAdd, Nat.reduceSub, Nat.reduceEqDiff, Nat.reduceLeDiff, Nat.reduceLT, Nat.le_refl, beq_self_eq_true, Nat.reduceBEq, ne_eq, not_true_eq_false, not_false_eq_true, Int32.reduceAdd, Int32.reduceSub, Int32.reduceMul, Int32.reduceLE, Int32.reduceLT, Int32.reduceToNatClampNeg, b01_0, b01_1, ne_2_0, ne_3_0, ne_4_0, ne_5_0, ne_6_0, ne_m1_0, ne_m2_0, b01_01, b01_n, lt_m2, lt_m1, le_m2, le_m1, Classical.not_not, j_Comp_stepsTo_0, b_Comp_stepsTo_0, j_Comp_stepsTo_47, b_Comp_stepsTo_47, j_Comp_stepsTo_54, b_Comp_stepsTo_54, j_Comp_stepsTo_60, b_Comp_stepsTo_60, an_0, an_1, ne_0_1, ne_0_m1, ne_0_m2, ne_1_0, ne_1_m1, ne_1_m2, ne_m1_0, ne_m1_1, ne_m1_m2, ne_m2_0, ne_m2_1, ne_m2_m1, sh_15, sh_37, l0, l1, l2, l3, l5]
    exact hq
  | succ m ih =>
    intro σ L hm l0 l1 l2 l3 l5 hq
    simp only [pI] at l5
    have hm64 : m < 64 := by omega
    have c0 := lt_nI (show m < 1000 by omega)
    have hand : m &&& (63 - set) < 64 := Nat.lt_of_le_of_lt Nat.and_le_left hm64
    have ez : (nI (m &&& (63 - set)) = 0) = (m &&& (63 - set) = 0) := eqN (b := 0) (by omega) (by omega)
    rw [sp_sts] at hq
    have no : (decide (m &&& (63 - set) = 0) && (cs I m && (decide (m = set) || (sp_nc σ set m 6 0).isSome))) = false → RW g false (d + 3) 0 0 m_Comp_stepsTo 0 0 5 (cp_s1 L 5 (.int (pI m))) [] SH I J (PP t u r x) Q := by
      intro e
      simp only [e, Bool.false_eq_true, if_false] at hq
      refine ih σ _ (by omega) ?_ ?_ ?_ ?_ ?_ hq <;> simp [cp_s1_at, cp_nl_int, cp_nl_ref, cp_nl_long, l0, l1, l2, l3]
    have yes : (decide (m &&& (63 - set) = 0) && (cs I m && (decide (m = set) || (sp_nc σ set m 6 0).isSome))) = true → RW g false (d + 3) 0 0 m_Comp_stepsTo 0 0 47 L [] SH I J (PP t u r x) Q := by
      intro e
      simp only [e, if_true] at hq
      refine cp_run 20 (fun t => t == 5) ck_Comp_stepsTo ?_
      simp only [cp_vc, cp_vs, cp_jm, cp_ent_en, cp_en_int, cp_en_ref, cp_en_ret, cp_en_long, cp_en_nil, cp_s1_at, cp_s2_at, cp_nl_int, cp_nl_ref, cp_nl_long, cp_nl_none, cp_pop_0, cp_pop_s, reduceIte, if_true, if_false, Bool.false_eq_true, Bool.true_eq_false, false_implies, implies_true, forall_const, true_implies, true_and, and_true, and_self, true_or, or_true, false_or, or_false, Value.category, List.length_cons, List.length_nil, Option.toList_some, Option.toList_none, List.cons_append, List.nil_append, List.append_nil, Prod.mk.injEq, Nat.add_zero, Nat.zero_add, Nat.reduceAdd, Nat.reduceSub, Nat.reduceEqDiff, Nat.reduceLeDiff, Nat.reduceLT, Nat.le_refl, beq_self_eq_true, Nat.reduceBEq, ne_eq, not_true_eq_false, not_false_eq_true, Int32.reduceAdd, Int32.reduceSub, Int32.reduceMul, Int32.reduceLE, Int32.reduceLT, Int32.reduceToNatClampNeg, b01_0, b01_1, ne_2_0, ne_3_0, ne_4_0, ne_5_0, ne_6_0, ne_m1_0, ne_m2_0, b01_01, b01_n, lt_m2, lt_m1, le_m2, le_m1, Classical.not_not, j_Comp_stepsTo_0, b_Comp_stepsTo_0, j_Comp_stepsTo_47, b_Comp_stepsTo_47, j_Comp_stepsTo_54, b_Comp_stepsTo_54, j_Comp_stepsTo_60, b_Comp_stepsTo_60, an_0, an_1, ne_0_1, ne_0_m1, ne_0_m2, ne_1_0, ne_1_m1, ne_1_m2, ne_m1_0, ne_m1_1, ne_m1_m2, ne_m2_0, ne_m2_1, ne_m2_m1, sh_15, sh_37, l0, l1, l2, l3, l5, lsh1 hm64, lor_g, pI_dec]
      refine ih (σ ||| 2 ^ m) _ (by omega) ?_ ?_ ?_ ?_ ?_ hq <;> simp [cp_s1_at, cp_s2_at, cp_nl_int, cp_nl_ref, cp_nl_long, l0, l1, l2]
    refine cp_run 60 (fun t => t == 5 || t == 47) ck_Comp_stepsTo ?_
    rw [j_Comp_stepsTo_5, b_Comp_stepsTo_5]
    simp only [cp_vc, cp_vs, cp_jm, cp_ent_en, cp_en_int, cp_en_ref, cp_en_ret, cp_en_long, cp_en_nil, cp_s1_at, cp_s2_at, cp_nl_int, cp_nl_ref, cp_nl_long, cp_nl_none, cp_pop_0, cp_pop_s, reduceIte, if_true, if_false, Bool.false_eq_true, Bool.true_eq_false, false_implies, implies_true, forall_const, true_implies, true_and, and_true, and_self, true_or, or_true, false_or, or_false, Value.category, List.length_cons, List.length_nil, Option.toList_some, Option.toList_none, List.cons_append, List.nil_append, List.append_nil, Prod.mk.injEq, Nat.add_zero, Nat.zero_add, Nat.reduceAdd, Nat.reduceSub, Nat.reduceEqDiff, Nat.reduceLeDiff, Nat.reduceLT, Nat.le_refl, beq_self_eq_true, Nat.reduceBEq, ne_eq, not_true_eq_false, not_false_eq_true, Int32.reduceAdd, Int32.reduceSub, Int32.reduceMul, Int32.reduceLE, Int32.reduceLT, Int32.reduceToNatClampNeg, b01_0, b01_1, ne_2_0, ne_3_0, ne_4_0, ne_5_0, ne_6_0, ne_m1_0, ne_m2_0, b01_01, b01_n, lt_m2, lt_m1, le_m2, le_m1, Classical.not_not, Bool.or_false, Bool.false_or, Bool.true_or, Bool.or_true, j_Comp_stepsTo_0, b_Comp_stepsTo_0, j_Comp_stepsTo_54, b_Comp_stepsTo_54, j_Comp_stepsTo_60, b_Comp_stepsTo_60, an_0, an_1, ne_0_1, ne_0_m1, ne_0_m2, ne_1_0, ne_1_m1, ne_1_m2, ne_m1_0, ne_m1_1, ne_m1_m2, ne_m2_0, ne_m2_1, ne_m2_m1, sh_15, sh_37, l0, l1, l2, l3, l5, c0, andn2_nI hm64 hs, ez, sh_15, pI_dec]
    refine ⟨fun b1 => no (by simp [b1]), fun b1 => ?_⟩
    refine c_Bath_isSnug hm64 ?_
    simp only [cp_kk, cp_vc, cp_vs, cp_jm, cp_ent_en, cp_en_int, cp_en_ref, cp_en_ret, cp_en_long, cp_en_nil, cp_s1_at, cp_s2_at, cp_nl_int, cp_nl_ref, cp_nl_long, cp_nl_none, cp_pop_0, cp_pop_s, reduceIte, if_true, if_false, Bool.false_eq_true, Bool.true_eq_false, false_implies, implies_true, forall_const, true_implies, true_and, and_true, and_self, true_or, or_true, false_or, or_false, Value.category, List.length_cons, List.length_nil, Option.toList_some, Option.toList_none, List.cons_append, List.nil_append, List.append_nil, Prod.mk.injEq, Nat.add_zero, Nat.zero_add, Nat.reduceAdd, Nat.reduceSub, Nat.reduceEqDiff, Nat.reduceLeDiff, Nat.reduceLT, Nat.le_refl, beq_self_eq_true, Nat.reduceBEq, ne_eq, not_true_eq_false, not_false_eq_true, Int32.reduceAdd, Int32.reduceSub, Int32.reduceMul, Int32.reduceLE, Int32.reduceLT, Int32.reduceToNatClampNeg, b01_0, b01_1, ne_2_0, ne_3_0, ne_4_0, ne_5_0, ne_6_0, ne_m1_0, ne_m2_0, b01_01, b01_n, lt_m2, lt_m1, le_m2, le_m1, Classical.not_not, Bool.or_false, Bool.false_or, Bool.true_or, Bool.or_true, j_Comp_stepsTo_0, b_Comp_stepsTo_0, j_Comp_stepsTo_54, b_Comp_stepsTo_54, j_Comp_stepsTo_60, b_Comp_stepsTo_60, an_0, an_1, ne_0_1, ne_0_m1, ne_0_m2, ne_1_0, ne_1_m1, ne_1_m2, ne_m1_0, ne_m1_1, ne_m1_m2, ne_m2_0, ne_m2_1, ne_m2_m1, sh_15, sh_37, l0, l1, l2, l3, l5, eqN (show m < 1000 by omega) (show set < 1000 by omega), pI_dec]
    refine ⟨fun b2 => no (by simp [b2]), fun b2 => ⟨fun b3 => yes (by rw [decide_eq_true b1, b2, decide_eq_true b3]; rfl), fun b3 => ?_⟩⟩
    have ho : ∀ b, sp_nc σ set m 6 0 = some b → b < 1000 := fun b q => by have := (sp_fst_b q).2.1; omega
    refine c_Comp_nextComer hs hm64 ?_
    simp only [cp_kk, cp_vc, cp_vs, cp_jm, cp_ent_en, cp_en_int, cp_en_ref, cp_en_ret, cp_en_long, cp_en_nil, cp_s1_at, cp_s2_at, cp_nl_int, cp_nl_ref, cp_nl_long, cp_nl_none, cp_pop_0, cp_pop_s, reduceIte, if_true, if_false, Bool.false_eq_true, Bool.true_eq_false, false_implies, implies_true, forall_const, true_implies, true_and, and_true, and_self, true_or, or_true, false_or, or_false, Value.category, List.length_cons, List.length_nil, Option.toList_some, Option.toList_none, List.cons_append, List.nil_append, List.append_nil, Prod.mk.injEq, Nat.add_zero, Nat.zero_add, Nat.reduceAdd, Nat.reduceSub, Nat.reduceEqDiff, Nat.reduceLeDiff, Nat.reduceLT, Nat.le_refl, beq_self_eq_true, Nat.reduceBEq, ne_eq, not_true_eq_false, not_false_eq_true, Int32.reduceAdd, Int32.reduceSub, Int32.reduceMul, Int32.reduceLE, Int32.reduceLT, Int32.reduceToNatClampNeg, b01_0, b01_1, ne_2_0, ne_3_0, ne_4_0, ne_5_0, ne_6_0, ne_m1_0, ne_m2_0, b01_01, b01_n, lt_m2, lt_m1, le_m2, le_m1, Classical.not_not, Bool.or_false, Bool.false_or, Bool.true_or, Bool.or_true, j_Comp_stepsTo_0, b_Comp_stepsTo_0, j_Comp_stepsTo_54, b_Comp_stepsTo_54, j_Comp_stepsTo_60, b_Comp_stepsTo_60, an_0, an_1, ne_0_1, ne_0_m1, ne_0_m2, ne_1_0, ne_1_m1, ne_1_m2, ne_m1_0, ne_m1_1, ne_m1_m2, ne_m2_0, ne_m2_1, ne_m2_m1, sh_15, sh_37, l0, l1, l2, l3, l5, oI_n ho, pI_dec]
    refine ⟨fun b4 => no (by simp [b3, b4]), fun b4 => yes ?_⟩
    have : (sp_nc σ set m 6 0).isSome = true := by
      cases hq2 : sp_nc σ set m 6 0 with
      | none => exact absurd hq2 b4
      | some _ => rfl
    rw [decide_eq_true b1, b2, this, Bool.or_true]
    rfl
/-- the steps to a set -/
def cst (I : cp_I) (set : Nat) : Nat := sp_sts (cs I) set (set + 1) 0
theorem c_Comp_stepsTo {set : Nat} (hc : cT I t n) (hs : set < 64) (h : Q (some (.long (lN (cst I set)))) SH I J (PP t u r x)) : MW g false (d + 3) 0 0 m_Comp_stepsTo [.ref 37, .ref 15, .int (nI set)] SH I J (PP t u r x) Q := by
  refine MW.of ok_Comp_stepsTo (Nat.le_of_ble_eq_true rfl) ?_
  refine cp_run 20 (fun t => t == 5) ck_Comp_stepsTo ?_
  simp only [cp_vc, cp_vs, cp_jm, cp_ent_en, cp_en_int, cp_en_ref, cp_en_ret, cp_en_long, cp_en_nil, cp_s1_at, cp_s2_at, cp_nl_int, cp_nl_ref, cp_nl_long, cp_nl_none, cp_pop_0, cp_pop_s, reduceIte, if_true, if_false, Bool.false_eq_true, Bool.true_eq_false, false_implies, implies_true, forall_const, true_implies, true_and, and_true, and_self, true_or, or_true, false_or, or_false, Value.category, List.length_cons, List.length_nil, Option.toList_some, Option.toList_none, List.cons_append, List.nil_append, List.append_nil, Prod.mk.injEq, Nat.add_zero, Nat.zero_add, Nat.reduceAdd, Nat.reduceSub, Nat.reduceEqDiff, Nat.reduceLeDiff, Nat.reduceLT, Nat.le_refl, beq_self_eq_true, Nat.reduceBEq, ne_eq, not_true_eq_false, not_false_eq_true, Int32.reduceAdd, Int32.reduceSub, Int32.reduceMul, Int32.reduceLE, Int32.reduceLT, Int32.reduceToNatClampNeg, b01_0, b01_1, ne_2_0, ne_3_0, ne_4_0, ne_5_0, ne_6_0, ne_m1_0, ne_m2_0, b01_01, b01_n, lt_m2, lt_m1, le_m2, le_m1, Classical.not_not, j_Comp_stepsTo_0, b_Comp_stepsTo_0, j_Comp_stepsTo_47, b_Comp_stepsTo_47, j_Comp_stepsTo_54, b_Comp_stepsTo_54, j_Comp_stepsTo_60, b_Comp_stepsTo_60, an_0, an_1, ne_0_1, ne_0_m1, ne_0_m2, ne_1_0, ne_1_m1, ne_1_m2, ne_m1_0, ne_m1_1, ne_m1_m2, ne_m2_0, ne_m2_1, ne_m2_m1, sh_15, sh_37]
  refine lp_Comp_stepsTo hc hs (set + 1) 0 _ (by omega) ?_ ?_ ?_ ?_ ?_ h
  · simp [cp_s1_at, cp_s2_at, cp_ent_en, cp_en_ref, cp_nl_ref]
  · simp [cp_s1_at, cp_s2_at, cp_ent_en, cp_en_ref, cp_nl_ref]
  · simp [cp_s1_at, cp_s2_at, cp_ent_en, cp_en_ref, cp_en_int, cp_nl_int]
  · simp [cp_s1_at, cp_s2_at, cp_nl_long]
    rfl
  · simp [cp_s1_at, pI]
theorem c_Comp_canComeIn {set : Nat} (hc : cT I t n) (hs : set < 64) (h : Q (some (.int (if (cst I set).testBit 0 = true then 1 else 0))) SH I J (PP t u r x)) : MW g false (d + 4) 0 0 m_Comp_canComeIn [.ref 37, .ref 15, .int (nI set)] SH I J (PP t u r x) Q := by
  refine MW.of ok_Comp_canComeIn (Nat.le_of_ble_eq_true rfl) ?_
  refine cp_run 20 (fun _ => false) ck_Comp_canComeIn ?_
  simp only [cp_vc, cp_vs, cp_jm, cp_ent_en, cp_en_int, cp_en_ref, cp_en_ret, cp_en_long, cp_en_nil, cp_s1_at, cp_s2_at, cp_nl_int, cp_nl_ref, cp_nl_long, cp_nl_none, cp_pop_0, cp_pop_s, reduceIte, if_true, if_false, Bool.false_eq_true, Bool.true_eq_false, false_implies, implies_true, forall_const, true_implies, true_and, and_true, and_self, true_or, or_true, false_or, or_false, Value.category, List.length_cons, List.length_nil, Option.toList_some, Option.toList_none, List.cons_append, List.nil_append, List.append_nil, Prod.mk.injEq, Nat.add_zero, Nat.zero_add, Nat.reduceAdd, Nat.reduceSub, Nat.reduceEqDiff, Nat.reduceLeDiff, Nat.reduceLT, Nat.le_refl, beq_self_eq_true, Nat.reduceBEq, ne_eq, not_true_eq_false, not_false_eq_true, Int32.reduceAdd, Int32.reduceSub, Int32.reduceMul, Int32.reduceLE, Int32.reduceLT, Int32.reduceToNatClampNeg, b01_0, b01_1, ne_2_0, ne_3_0, ne_4_0, ne_5_0, ne_6_0, ne_m1_0, ne_m2_0, b01_01, b01_n, lt_m2, lt_m1, le_m2, le_m1, Classical.not_not, j_Comp_canComeIn_0, b_Comp_canComeIn_0, j_Comp_canComeIn_17, b_Comp_canComeIn_17, j_Comp_canComeIn_18, b_Comp_canComeIn_18, an_0, an_1, cl_0, cl_1, ne_0_1, ne_1_0, sh_37, vi_0, vi_1]
  refine c_Comp_stepsTo hc hs ?_
  simp only [cp_kk, cp_vc, cp_vs, cp_jm, cp_ent_en, cp_en_int, cp_en_ref, cp_en_ret, cp_en_long, cp_en_nil, cp_s1_at, cp_s2_at, cp_nl_int, cp_nl_ref, cp_nl_long, cp_nl_none, cp_pop_0, cp_pop_s, reduceIte, if_true, if_false, Bool.false_eq_true, Bool.true_eq_false, false_implies, implies_true, forall_const, true_implies, true_and, and_true, and_self, true_or, or_true, false_or, or_false, Value.category, List.length_cons, List.length_nil, Option.toList_some, Option.toList_none, List.cons_append, List.nil_append, List.append_nil, Prod.mk.injEq, Nat.add_zero, Nat.zero_add, Nat.reduceAdd, Nat.reduceSub, Nat.reduceEqDiff, Nat.reduceLeDiff, Nat.reduceLT, Nat.le_refl, beq_self_eq_true, Nat.reduceBEq, ne_eq, not_true_eq_false, not_false_eq_true, Int32.reduceAdd, Int32.reduceSub, Int32.reduceMul, Int32.reduceLE, Int32.reduceLT, Int32.reduceToNatClampNeg, b01_0, b01_1, ne_2_0, ne_3_0, ne_4_0, ne_5_0, ne_6_0, ne_m1_0, ne_m2_0, b01_01, b01_n, lt_m2, lt_m1, le_m2, le_m1, Classical.not_not, Bool.or_false, Bool.false_or, Bool.true_or, Bool.or_true, j_Comp_canComeIn_0, b_Comp_canComeIn_0, j_Comp_canComeIn_17, b_Comp_canComeIn_17, j_Comp_canComeIn_18, b_Comp_canComeIn_18, an_0, an_1, cl_0, cl_1, ne_0_1, ne_1_0, sh_37, vi_0, vi_1, lbit0, lg_cmp_eq, l1_0]
  refine ⟨fun c => ?_, fun c => ?_⟩
  · rw [if_neg c] at h
    exact h
  · rw [if_pos c] at h
    exact h
def sp_cm (σ set : Nat) : Nat → Nat × Option Nat → Nat × Option Nat := fun _ q => match sp_nc σ set q.1 6 0 with
  | none => (q.1, none)
  | some b => (q.1 ||| 2 ^ b, some b)
theorem lp_Comp_comerAt {σ set i : Nat} (hs : set < 64) (hi : i < 6) : ∀ (m k : Nat) (q : Nat × Option Nat) (L : cp_Lo), k + m = i + 1 → q.1 < 64 → L 0 = some (.ref 37) → L 2 = some (.int (nI set)) → L 3 = some (.int (nI i)) → L 4 = some (.long (lN σ)) → L 6 = some (.int (nI q.1)) → L 7 = some (.int (oI q.2)) → L 8 = some (.int (nI k)) →
    Q (some (.int (oI (fo (sp_cm σ set) m k q).2))) SH I J (PP t u r x) → RW g false (d + 4) 0 0 m_Comp_comerAt 0 0 42 L [] SH I J (PP t u r x) Q := by
  intro m
  induction m with
  | zero =>
    intro k q L hk hq6 l0 l2 l3 l4 l6 l7 l8 hq
    have c1 : nI i < nI k := nI_lt (by omega) (by omega)
    refine cp_run 20 (fun t => t == 42) ck_Comp_comerAt ?_
    simp only [cp_vc, cp_vs, cp_jm, cp_ent_en, cp_en_int, cp_en_ref, cp_en_ret, cp_en_long, cp_en_nil, cp_s1_at, cp_s2_at, cp_nl_int, cp_nl_ref, cp_nl_long, cp_nl_none, cp_pop_0, cp_pop_s, reduceIte, if_true, if_false, Bool.false_eq_true, Bool.true_eq_false, false_implies, implies_true, forall_const, true_implies, true_and, and_true, and_self, true_or, or_true, false_or, or_false, Value.category, List.length_cons, List.length_nil, Option.toList_some, Option.toList_none, List.cons_append, List.nil_append, List.append_nil, Prod.mk.injEq, Nat.add_zero, Nat.zero_add, Nat.reduceAdd, Nat.reduceSub, Nat.reduceEqDiff, Nat.reduceLeDiff, Nat.reduceLT, Nat.le_refl, beq_self_eq_true, Nat.reduceBEq, ne_eq, not_true_eq_false, not_false_eq_true, Int32.reduceAdd, Int32.reduceSub, Int32.reduceMul, Int32.reduceLE, Int32.reduceLT, Int32.reduceToNatClampNeg, b01_0, b01_1, ne_2_0, ne_3_0, ne_4_0, ne_5_0, ne_6_0, ne_m1_0, ne_m2_0, b01_01, b01_n, lt_m2, lt_m1, le_m2, le_m1, Classical.not_not, j_Comp_comerAt_0, b_Comp_comerAt_0, j_Comp_comerAt_29, b_Comp_comerAt_29, j_Comp_comerAt_32, b_Comp_comerAt_32, j_Comp_comerAt_42, b_Comp_comerAt_42, j_Comp_comerAt_75, b_Comp_comerAt_75, j_Comp_comerAt_81, b_Comp_comerAt_81, an_0, an_1, cl_0, cl_1, ne_0_1, ne_0_m2, ne_1_0, ne_1_m2, ne_m2_0, ne_m2_1, sh_37, vi_0, vi_1, l0, l2, l3, l4, l6, l7, l8, c1]
    exact hq
  | succ m ih =>
    intro k q L hk hq6 l0 l2 l3 l4 l6 l7 l8 hq
    have c1 : ¬ nI i < nI k := nI_nlt (by omega) (by omega)
    rw [fo] at hq
    refine cp_run 40 (fun t => t == 42) ck_Comp_comerAt ?_
    simp only [cp_vc, cp_vs, cp_jm, cp_ent_en, cp_en_int, cp_en_ref, cp_en_ret, cp_en_long, cp_en_nil, cp_s1_at, cp_s2_at, cp_nl_int, cp_nl_ref, cp_nl_long, cp_nl_none, cp_pop_0, cp_pop_s, reduceIte, if_true, if_false, Bool.false_eq_true, Bool.true_eq_false, false_implies, implies_true, forall_const, true_implies, true_and, and_true, and_self, true_or, or_true, false_or, or_false, Value.category, List.length_cons, List.length_nil, Option.toList_some, Option.toList_none, List.cons_append, List.nil_append, List.append_nil, Prod.mk.injEq, Nat.add_zero, Nat.zero_add, Nat.reduceAdd, Nat.reduceSub, Nat.reduceEqDiff, Nat.reduceLeDiff, Nat.reduceLT, Nat.le_refl, beq_self_eq_true, Nat.reduceBEq, ne_eq, not_true_eq_false, not_false_eq_true, Int32.reduceAdd, Int32.reduceSub, Int32.reduceMul, Int32.reduceLE, Int32.reduceLT, Int32.reduceToNatClampNeg, b01_0, b01_1, ne_2_0, ne_3_0, ne_4_0, ne_5_0, ne_6_0, ne_m1_0, ne_m2_0, b01_01, b01_n, lt_m2, lt_m1, le_m2, le_m1, Classical.not_not, j_Comp_comerAt_0, b_Comp_comerAt_0, j_Comp_comerAt_29, b_Comp_comerAt_29, j_Comp_comerAt_32, b_Comp_comerAt_32, j_Comp_comerAt_42, b_Comp_comerAt_42, j_Comp_comerAt_75, b_Comp_comerAt_75, j_Comp_comerAt_81, b_Comp_comerAt_81, an_0, an_1, cl_0, cl_1, ne_0_1, ne_0_m2, ne_1_0, ne_1_m2, ne_m2_0, ne_m2_1, sh_37, vi_0, vi_1, l0, l2, l3, l4, l6, l7, l8, c1]
    refine c_Comp_nextComer hs hq6 ?_
    cases hc : sp_nc σ set q.1 6 0 with
    | none =>
      have e : sp_cm σ set k q = (q.1, none) := by simp only [sp_cm, hc]
      rw [e] at hq
      simp only [cp_kk, cp_vc, cp_vs, cp_jm, cp_ent_en, cp_en_int, cp_en_ref, cp_en_ret, cp_en_long, cp_en_nil, cp_s1_at, cp_s2_at, cp_nl_int, cp_nl_ref, cp_nl_long, cp_nl_none, cp_pop_0, cp_pop_s, reduceIte, if_true, if_false, Bool.false_eq_true, Bool.true_eq_false, false_implies, implies_true, forall_const, true_implies, true_and, and_true, and_self, true_or, or_true, false_or, or_false, Value.category, List.length_cons, List.length_nil, Option.toList_some, Option.toList_none, List.cons_append, List.nil_append, List.append_nil, Prod.mk.injEq, Nat.add_zero, Nat.zero_add, Nat.reduceAdd, Nat.reduceSub, Nat.reduceEqDiff, Nat.reduceLeDiff, Nat.reduceLT, Nat.le_refl, beq_self_eq_true, Nat.reduceBEq, ne_eq, not_true_eq_false, not_false_eq_true, Int32.reduceAdd, Int32.reduceSub, Int32.reduceMul, Int32.reduceLE, Int32.reduceLT, Int32.reduceToNatClampNeg, b01_0, b01_1, ne_2_0, ne_3_0, ne_4_0, ne_5_0, ne_6_0, ne_m1_0, ne_m2_0, b01_01, b01_n, lt_m2, lt_m1, le_m2, le_m1, Classical.not_not, Bool.or_false, Bool.false_or, Bool.true_or, Bool.or_true, j_Comp_comerAt_0, b_Comp_comerAt_0, j_Comp_comerAt_29, b_Comp_comerAt_29, j_Comp_comerAt_32, b_Comp_comerAt_32, j_Comp_comerAt_42, b_Comp_comerAt_42, j_Comp_comerAt_75, b_Comp_comerAt_75, j_Comp_comerAt_81, b_Comp_comerAt_81, an_0, an_1, cl_0, cl_1, ne_0_1, ne_0_m2, ne_1_0, ne_1_m2, ne_m2_0, ne_m2_1, sh_37, vi_0, vi_1, l0, l2, l3, l4, l6, l7, l8, oI, nI_1]
      refine ih (k + 1) (q.1, none) _ (by omega) hq6 ?_ ?_ ?_ ?_ ?_ ?_ ?_ hq <;> simp [cp_s1_at, cp_nl_int, cp_nl_ref, cp_nl_long, l0, l2, l3, l4, l6, oI]
    | some b =>
      have hb : b < 6 := by have := (sp_fst_b hc).2.1; omega
      have e : sp_cm σ set k q = (q.1 ||| 2 ^ b, some b) := by simp only [sp_cm, hc]
      rw [e] at hq
      have nb : ¬ nI b = -2 := by
        intro q
        have := nI_pos (n := b) (by omega)
        rw [q] at this
        exact this (by decide +kernel)
      simp only [cp_kk, cp_vc, cp_vs, cp_jm, cp_ent_en, cp_en_int, cp_en_ref, cp_en_ret, cp_en_long, cp_en_nil, cp_s1_at, cp_s2_at, cp_nl_int, cp_nl_ref, cp_nl_long, cp_nl_none, cp_pop_0, cp_pop_s, reduceIte, if_true, if_false, Bool.false_eq_true, Bool.true_eq_false, false_implies, implies_true, forall_const, true_implies, true_and, and_true, and_self, true_or, or_true, false_or, or_false, Value.category, List.length_cons, List.length_nil, Option.toList_some, Option.toList_none, List.cons_append, List.nil_append, List.append_nil, Prod.mk.injEq, Nat.add_zero, Nat.zero_add, Nat.reduceAdd, Nat.reduceSub, Nat.reduceEqDiff, Nat.reduceLeDiff, Nat.reduceLT, Nat.le_refl, beq_self_eq_true, Nat.reduceBEq, ne_eq, not_true_eq_false, not_false_eq_true, Int32.reduceAdd, Int32.reduceSub, Int32.reduceMul, Int32.reduceLE, Int32.reduceLT, Int32.reduceToNatClampNeg, b01_0, b01_1, ne_2_0, ne_3_0, ne_4_0, ne_5_0, ne_6_0, ne_m1_0, ne_m2_0, b01_01, b01_n, lt_m2, lt_m1, le_m2, le_m1, Classical.not_not, Bool.or_false, Bool.false_or, Bool.true_or, Bool.or_true, j_Comp_comerAt_0, b_Comp_comerAt_0, j_Comp_comerAt_29, b_Comp_comerAt_29, j_Comp_comerAt_32, b_Comp_comerAt_32, j_Comp_comerAt_42, b_Comp_comerAt_42, j_Comp_comerAt_75, b_Comp_comerAt_75, j_Comp_comerAt_81, b_Comp_comerAt_81, an_0, an_1, cl_0, cl_1, ne_0_1, ne_0_m2, ne_1_0, ne_1_m2, ne_m2_0, ne_m2_1, sh_37, vi_0, vi_1, l0, l2, l3, l4, l6, l7, l8, oI, nb, sh1 (show b < 8 by omega), or_nI hq6 (pow_lt64 hb), nI_1]
      refine ih (k + 1) (q.1 ||| 2 ^ b, some b) _ (by omega) (or_lt64 hq6 (pow_lt64 hb)) ?_ ?_ ?_ ?_ ?_ ?_ ?_ hq <;> simp [cp_s1_at, cp_nl_int, cp_nl_ref, cp_nl_long, l0, l2, l3, l4, oI]
theorem c_Comp_comerAt {set : Nat} {i : Int32} (hc : cT I t n) (hs : set < 64) (h1 : ∀ k, (cst I set).testBit 0 = true → i = nI k → k < card set → Q (some (.int (oI (fo (sp_cm (cst I set) set) (k + 1) 0 (0, none)).2))) SH I J (PP t u r x)) (h0 : ¬ ((cst I set).testBit 0 = true ∧ ∃ k, i = nI k ∧ k < card set) → Q (some (.int (-2))) SH I J (PP t u r x)) : MW g false (d + 4) 0 0 m_Comp_comerAt [.ref 37, .ref 15, .int (nI set), .int i] SH I J (PP t u r x) Q := by
  have hc6 := card_le hs
  refine MW.of ok_Comp_comerAt (Nat.le_of_ble_eq_true rfl) ?_
  refine cp_run 60 (fun t => t == 29 || t == 42) ck_Comp_comerAt ?_
  simp only [cp_vc, cp_vs, cp_jm, cp_ent_en, cp_en_int, cp_en_ref, cp_en_ret, cp_en_long, cp_en_nil, cp_s1_at, cp_s2_at, cp_nl_int, cp_nl_ref, cp_nl_long, cp_nl_none, cp_pop_0, cp_pop_s, reduceIte, if_true, if_false, Bool.false_eq_true, Bool.true_eq_false, false_implies, implies_true, forall_const, true_implies, true_and, and_true, and_self, true_or, or_true, false_or, or_false, Value.category, List.length_cons, List.length_nil, Option.toList_some, Option.toList_none, List.cons_append, List.nil_append, List.append_nil, Prod.mk.injEq, Nat.add_zero, Nat.zero_add, Nat.reduceAdd, Nat.reduceSub, Nat.reduceEqDiff, Nat.reduceLeDiff, Nat.reduceLT, Nat.le_refl, beq_self_eq_true, Nat.reduceBEq, ne_eq, not_true_eq_false, not_false_eq_true, Int32.reduceAdd, Int32.reduceSub, Int32.reduceMul, Int32.reduceLE, Int32.reduceLT, Int32.reduceToNatClampNeg, b01_0, b01_1, ne_2_0, ne_3_0, ne_4_0, ne_5_0, ne_6_0, ne_m1_0, ne_m2_0, b01_01, b01_n, lt_m2, lt_m1, le_m2, le_m1, Classical.not_not, Bool.or_false, Bool.false_or, Bool.true_or, Bool.or_true, j_Comp_comerAt_0, b_Comp_comerAt_0, j_Comp_comerAt_29, b_Comp_comerAt_29, j_Comp_comerAt_32, b_Comp_comerAt_32, j_Comp_comerAt_42, b_Comp_comerAt_42, j_Comp_comerAt_75, b_Comp_comerAt_75, j_Comp_comerAt_81, b_Comp_comerAt_81, an_0, an_1, cl_0, cl_1, ne_0_1, ne_0_m2, ne_1_0, ne_1_m2, ne_m2_0, ne_m2_1, sh_37, vi_0, vi_1]
  refine c_Comp_stepsTo hc hs ?_
  have bad : ¬ ((cst I set).testBit 0 = true ∧ ∃ k, i = nI k ∧ k < card set) → ∀ L : cp_Lo, RW g false (d + 4) 0 0 m_Comp_comerAt 0 0 29 L [] SH I J (PP t u r x) Q := by
    intro q L
    refine cp_run 10 (fun _ => false) ck_Comp_comerAt ?_
    simp only [cp_vc, cp_vs, cp_jm, cp_ent_en, cp_en_int, cp_en_ref, cp_en_ret, cp_en_long, cp_en_nil, cp_s1_at, cp_s2_at, cp_nl_int, cp_nl_ref, cp_nl_long, cp_nl_none, cp_pop_0, cp_pop_s, reduceIte, if_true, if_false, Bool.false_eq_true, Bool.true_eq_false, false_implies, implies_true, forall_const, true_implies, true_and, and_true, and_self, true_or, or_true, false_or, or_false, Value.category, List.length_cons, List.length_nil, Option.toList_some, Option.toList_none, List.cons_append, List.nil_append, List.append_nil, Prod.mk.injEq, Nat.add_zero, Nat.zero_add, Nat.reduceAdd, Nat.reduceSub, Nat.reduceEqDiff, Nat.reduceLeDiff, Nat.reduceLT, Nat.le_refl, beq_self_eq_true, Nat.reduceBEq, ne_eq, not_true_eq_false, not_false_eq_true, Int32.reduceAdd, Int32.reduceSub, Int32.reduceMul, Int32.reduceLE, Int32.reduceLT, Int32.reduceToNatClampNeg, b01_0, b01_1, ne_2_0, ne_3_0, ne_4_0, ne_5_0, ne_6_0, ne_m1_0, ne_m2_0, b01_01, b01_n, lt_m2, lt_m1, le_m2, le_m1, Classical.not_not, j_Comp_comerAt_0, b_Comp_comerAt_0, j_Comp_comerAt_29, b_Comp_comerAt_29, j_Comp_comerAt_32, b_Comp_comerAt_32, j_Comp_comerAt_42, b_Comp_comerAt_42, j_Comp_comerAt_75, b_Comp_comerAt_75, j_Comp_comerAt_81, b_Comp_comerAt_81, an_0, an_1, cl_0, cl_1, ne_0_1, ne_0_m2, ne_1_0, ne_1_m2, ne_m2_0, ne_m2_1, sh_37, vi_0, vi_1]
    exact h0 q
  simp only [cp_kk, cp_vc, cp_vs, cp_jm, cp_ent_en, cp_en_int, cp_en_ref, cp_en_ret, cp_en_long, cp_en_nil, cp_s1_at, cp_s2_at, cp_nl_int, cp_nl_ref, cp_nl_long, cp_nl_none, cp_pop_0, cp_pop_s, reduceIte, if_true, if_false, Bool.false_eq_true, Bool.true_eq_false, false_implies, implies_true, forall_const, true_implies, true_and, and_true, and_self, true_or, or_true, false_or, or_false, Value.category, List.length_cons, List.length_nil, Option.toList_some, Option.toList_none, List.cons_append, List.nil_append, List.append_nil, Prod.mk.injEq, Nat.add_zero, Nat.zero_add, Nat.reduceAdd, Nat.reduceSub, Nat.reduceEqDiff, Nat.reduceLeDiff, Nat.reduceLT, Nat.le_refl, beq_self_eq_true, Nat.reduceBEq, ne_eq, not_true_eq_false, not_false_eq_true, Int32.reduceAdd, Int32.reduceSub, Int32.reduceMul, Int32.reduceLE, Int32.reduceLT, Int32.reduceToNatClampNeg, b01_0, b01_1, ne_2_0, ne_3_0, ne_4_0, ne_5_0, ne_6_0, ne_m1_0, ne_m2_0, b01_01, b01_n, lt_m2, lt_m1, le_m2, le_m1, Classical.not_not, Bool.or_false, Bool.false_or, Bool.true_or, Bool.or_true, j_Comp_comerAt_0, b_Comp_comerAt_0, j_Comp_comerAt_29, b_Comp_comerAt_29, j_Comp_comerAt_32, b_Comp_comerAt_32, j_Comp_comerAt_42, b_Comp_comerAt_42, j_Comp_comerAt_75, b_Comp_comerAt_75, j_Comp_comerAt_81, b_Comp_comerAt_81, an_0, an_1, cl_0, cl_1, ne_0_1, ne_0_m2, ne_1_0, ne_1_m2, ne_m2_0, ne_m2_1, sh_37, vi_0, vi_1, lbit0, lg_cmp_eq, l1_0]
  refine ⟨fun c => bad (fun q => c q.1) _, fun c => ⟨fun c2 => bad (fun q => ?_) _, fun c2 => ?_⟩⟩
  · obtain ⟨-, k, rfl, hk⟩ := q
    exact nI_pos (by omega) c2
  · obtain ⟨k, hk, rfl⟩ := nI_of c2
    refine c_bitCount6 hs ?_
    have e : (nI k < nI (card set)) = (k < card set) := propext (nI_ltI hk (by omega))
    simp only [cp_kk, cp_vc, cp_vs, cp_jm, cp_ent_en, cp_en_int, cp_en_ref, cp_en_ret, cp_en_long, cp_en_nil, cp_s1_at, cp_s2_at, cp_nl_int, cp_nl_ref, cp_nl_long, cp_nl_none, cp_pop_0, cp_pop_s, reduceIte, if_true, if_false, Bool.false_eq_true, Bool.true_eq_false, false_implies, implies_true, forall_const, true_implies, true_and, and_true, and_self, true_or, or_true, false_or, or_false, Value.category, List.length_cons, List.length_nil, Option.toList_some, Option.toList_none, List.cons_append, List.nil_append, List.append_nil, Prod.mk.injEq, Nat.add_zero, Nat.zero_add, Nat.reduceAdd, Nat.reduceSub, Nat.reduceEqDiff, Nat.reduceLeDiff, Nat.reduceLT, Nat.le_refl, beq_self_eq_true, Nat.reduceBEq, ne_eq, not_true_eq_false, not_false_eq_true, Int32.reduceAdd, Int32.reduceSub, Int32.reduceMul, Int32.reduceLE, Int32.reduceLT, Int32.reduceToNatClampNeg, b01_0, b01_1, ne_2_0, ne_3_0, ne_4_0, ne_5_0, ne_6_0, ne_m1_0, ne_m2_0, b01_01, b01_n, lt_m2, lt_m1, le_m2, le_m1, Classical.not_not, Bool.or_false, Bool.false_or, Bool.true_or, Bool.or_true, j_Comp_comerAt_0, b_Comp_comerAt_0, j_Comp_comerAt_29, b_Comp_comerAt_29, j_Comp_comerAt_32, b_Comp_comerAt_32, j_Comp_comerAt_42, b_Comp_comerAt_42, j_Comp_comerAt_75, b_Comp_comerAt_75, j_Comp_comerAt_81, b_Comp_comerAt_81, an_0, an_1, cl_0, cl_1, ne_0_1, ne_0_m2, ne_1_0, ne_1_m2, ne_m2_0, ne_m2_1, sh_37, vi_0, vi_1, e]
    refine ⟨fun c3 => ?_, fun c3 => bad (fun q => ?_) _⟩
    · refine lp_Comp_comerAt (σ := cst I set) (i := k) hs (by omega) (k + 1) 0 (0, none) _ (by omega) (by simp) ?_ ?_ ?_ ?_ ?_ ?_ ?_ (h1 k c rfl c3)
      · simp [cp_s1_at, cp_s2_at, cp_ent_en, cp_en_ref, cp_nl_ref]
      · simp [cp_s1_at, cp_s2_at, cp_ent_en, cp_en_ref, cp_en_int, cp_nl_int]
      · simp [cp_s1_at, cp_s2_at, cp_ent_en, cp_en_ref, cp_en_int, cp_nl_int]
      · simp [cp_s1_at, cp_s2_at, cp_nl_long]
      · simp [cp_s1_at, cp_nl_int, nI_0]
      · simp [cp_s1_at, cp_nl_int, oI]
      · simp [cp_s1_at, nI_0]
    · obtain ⟨-, j, hj, hj2⟩ := q
      have := (nI_eq hk (by omega)).1 hj
      omega
end Comp3
