section Mem1
variable {g : cp_G} {d : Nat} {sh : cp_H} {I : cp_I} {J : cp_J} {P : cp_P} {Q : cp_QT} {t u r x n c : Nat}
/-! bits of an int of any size -/
theorem shm {k : Nat} (hk : k < 32) : ((nI k &&& 31).toBitVec.smod 32#32).toNat = k := by
  have key : ∀ k : Nat, k < 32 → ((nI k &&& 31).toBitVec.smod 32#32).toNat = k := by decide +kernel
  exact key k hk
theorem hbg {m k : Nat} (hk : k < 32) : (nI m >>> (nI k &&& 31)) &&& 1 = if m.testBit k = true then 1 else 0 := by
  apply Int32.toBitVec_inj.1
  have e : (nI m >>> (nI k &&& 31)).toBitVec = (BitVec.ofNat 32 m).sshiftRight k := by
    show (nI m).toBitVec.sshiftRight' ((nI k &&& 31).toBitVec.smod 32#32) = _
    rw [BitVec.sshiftRight_eq', shm hk]
    rfl
  rw [Int32.toBitVec_and, e]
  apply BitVec.eq_of_getLsbD_eq
  intro i hi
  rw [BitVec.getLsbD_and, BitVec.getLsbD_sshiftRight]
  by_cases hi0 : i = 0
  · subst hi0
    by_cases h : m.testBit k = true
    · rw [if_pos h]
      simp only [Nat.add_zero, hk, if_true, BitVec.getLsbD_ofNat, h]
      decide
    · rw [if_neg h]
      simp only [Nat.add_zero, hk, if_true, BitVec.getLsbD_ofNat, h]
      decide
  · have e1 : (1 : Int32).toBitVec.getLsbD i = false := by
      show (1#32).getLsbD i = false
      simp [hi0]
    rw [e1, Bool.and_false]
    by_cases h : m.testBit k = true
    · rw [if_pos h]
      exact e1.symm
    · rw [if_neg h]
      simp
theorem hbg_0 {m k : Nat} (hk : k < 32) : ((nI m >>> (nI k &&& 31)) &&& 1 = 0) = (m.testBit k = false) := by
  rw [hbg hk]
  cases m.testBit k <;> simp
theorem hbg_2 {m a s b : Nat} (ha : a < 32) (hb : b < 32) : ((nI m >>> (nI a &&& 31)) &&& (nI s >>> (nI b &&& 31)) &&& 1 = 0) = ((m.testBit a && s.testBit b) = false) := by
  rw [and1_2, hbg ha, hbg hb]
  cases m.testBit a <;> cases s.testBit b <;> simp
theorem hbg_3 {m a s b c : Nat} (ha : a < 32) (hb : b < 32) (hc : c < 32) : ((nI m >>> (nI a &&& 31)) &&& (nI s >>> (nI b &&& 31)) &&& (nI s >>> (nI c &&& 31)) &&& 1 = 0) = ((m.testBit a && (s.testBit b && s.testBit c)) = false) := by
  rw [and1_2, and1_2, hbg ha, hbg hb, hbg hc]
  cases m.testBit a <;> cases s.testBit b <;> cases s.testBit c <;> simp
/-! what was felt, by the class -/
def cU (I : cp_I) (c um tm : Nat) (ua ub fs : Nat → Nat) : Prop := (I c 6 = nI um ∧ um ≤ 4) ∧ (I c 7 = nI tm ∧ tm ≤ 4) ∧ (∀ k, k < um → I (c + 5) k = nI (ua k) ∧ I (c + 6) k = nI (ub k) ∧ ua k < 6 ∧ ub k < 6) ∧ ∀ k, k < tm → I (c + 9) k = nI (fs k) ∧ fs k < 64
def ct0 (I : cp_I) (c : Nat) : sp_T := fun a b => I (c + 4) (6 * a + b)
def cwu (I : cp_I) (c : Nat) (ua ub : Nat → Nat) (s kn : Nat) (ch : Int32) : Nat → Int32 → Int32 := fun k z => if (kn.testBit k && (s.testBit (ua k) && s.testBit (ub k))) = true then z + (ch + I (c + 7) k) else z
def cwa (ti : sp_T) (s : Nat) (ch : Int32) (a : Nat) : Nat → Int32 → Int32 := fun b z => if (s.testBit a && s.testBit b) = true then z + sp_pr ch ti a b else z
def cwp (I : cp_I) (c n s : Nat) (ch : Int32) : Nat → Int32 → Int32 := fun a z => fo (cwa (ct0 I c) s ch a) (n - (a + 1)) (a + 1) z
def cwb (I : cp_I) (c n um : Nat) (ua ub : Nat → Nat) (s kn : Nat) (ch : Int32) : Int32 := sp_cl (fo (cwu I c ua ub s kn ch) um 0 (fo (cwp I c n s ch) n 0 (I c 0)))
theorem lp_Mem_wb89 {um tm s kn : Nat} {ua ub fs : Nat → Nat} {ch : Int32} (hc : tk c) (hU : cU I c um tm ua ub fs) : ∀ (m k : Nat) (z : Int32) (L : cp_Lo), k + m = um → L 0 = some (.ref c) → L 1 = some (.int (nI s)) → L 2 = some (.int (nI kn)) → L 3 = some (.int ch) → L 4 = some (.int z) → L 5 = some (.int (nI k)) →
    Q (some (.int (sp_cl (fo (cwu I c ua ub s kn ch) m k z)))) SH I J (PP t u r x) → RW g false (d + 2) 0 0 m_Mem_warmthBy 0 0 89 L [] SH I J (PP t u r x) Q := by
  obtain ⟨⟨u1, u2⟩, -, u3, -⟩ := hU
  intro m
  induction m with
  | zero =>
    intro k z L hk l0 l1 l2 l3 l4 l5 hq
    have c1 : nI um ≤ nI k := nI_le (by omega) (by omega)
    refine cp_run 30 (fun t => t == 89) ck_Mem_warmthBy ?_
    simp only [cp_vc, cp_vs, cp_jm, cp_ent_en, cp_en_int, cp_en_ref, cp_en_ret, cp_en_long, cp_en_nil, cp_s1_at, cp_s2_at, cp_nl_int, cp_nl_ref, cp_nl_long, cp_nl_none, cp_pop_0, cp_pop_s, reduceIte, if_true, if_false, Bool.false_eq_true, Bool.true_eq_false, false_implies, implies_true, forall_const, true_implies, true_and, and_true, and_self, true_or, or_true, false_or, or_false, Value.category, List.length_cons, List.length_nil, Option.toList_some, Option.toList_none, List.cons_append, List.nil_append, List.append_nil, Prod.mk.injEq, Nat.add_zero, Nat.zero_add, Nat.reduceAdd, Nat.reduceSub, Nat.reduceEqDiff, Nat.reduceLeDiff, Nat.reduceLT, Nat.le_refl, beq_self_eq_true, Nat.reduceBEq, ne_eq, not_true_eq_false, not_false_eq_true, Int32.reduceAdd, Int32.reduceSub, Int32.reduceMul, Int32.reduceLE, Int32.reduceLT, Int32.reduceToNatClampNeg, b01_0, b01_1, ne_2_0, ne_3_0, ne_4_0, ne_5_0, ne_6_0, ne_m1_0, ne_m2_0, b01_01, b01_n, lt_m2, lt_m1, le_m2, le_m1, Classical.not_not, j_Mem_warmthBy_0, b_Mem_warmthBy_0, j_Mem_warmthBy_9, b_Mem_warmthBy_9, j_Mem_warmthBy_24, b_Mem_warmthBy_24, j_Mem_warmthBy_69, b_Mem_warmthBy_69, j_Mem_warmthBy_71, b_Mem_warmthBy_71, j_Mem_warmthBy_74, b_Mem_warmthBy_74, j_Mem_warmthBy_80, b_Mem_warmthBy_80, j_Mem_warmthBy_86, b_Mem_warmthBy_86, j_Mem_warmthBy_89, b_Mem_warmthBy_89, j_Mem_warmthBy_141, b_Mem_warmthBy_141, j_Mem_warmthBy_147, b_Mem_warmthBy_147, an_0, an_1, cl_0, cl_1, ne_0_1, ne_1_0, vi_0, vi_1, l0, l1, l2, l3, l4, l5, sT0 hc, sT1 hc, sT2 hc, sT3 hc, sT4 hc, sT5 hc, sT6 hc, sT7 hc, sT8 hc, sT9 hc, pT1 hc, pT2 hc, pT3 hc, pT4 hc, pT5 hc, pT6 hc, pT7 hc, pT8 hc, pT9 hc, u1, c1, cl_mm]
    exact hq
  | succ m ih =>
    intro k z L hk l0 l1 l2 l3 l4 l5 hq
    have c1 : ¬ nI um ≤ nI k := nI_ge (by omega) (by omega)
    obtain ⟨a1, a2, a3, a4⟩ := u3 k (by omega)
    rw [fo] at hq
    refine cp_run 60 (fun t => t == 89) ck_Mem_warmthBy ?_
    simp only [cp_vc, cp_vs, cp_jm, cp_ent_en, cp_en_int, cp_en_ref, cp_en_ret, cp_en_long, cp_en_nil, cp_s1_at, cp_s2_at, cp_nl_int, cp_nl_ref, cp_nl_long, cp_nl_none, cp_pop_0, cp_pop_s, reduceIte, if_true, if_false, Bool.false_eq_true, Bool.true_eq_false, false_implies, implies_true, forall_const, true_implies, true_and, and_true, and_self, true_or, or_true, false_or, or_false, Value.category, List.length_cons, List.length_nil, Option.toList_some, Option.toList_none, List.cons_append, List.nil_append, List.append_nil, Prod.mk.injEq, Nat.add_zero, Nat.zero_add, Nat.reduceAdd, Nat.reduceSub, Nat.reduceEqDiff, Nat.reduceLeDiff, Nat.reduceLT, Nat.le_refl, beq_self_eq_true, Nat.reduceBEq, ne_eq, not_true_eq_false, not_false_eq_true, Int32.reduceAdd, Int32.reduceSub, Int32.reduceMul, Int32.reduceLE, Int32.reduceLT, Int32.reduceToNatClampNeg, b01_0, b01_1, ne_2_0, ne_3_0, ne_4_0, ne_5_0, ne_6_0, ne_m1_0, ne_m2_0, b01_01, b01_n, lt_m2, lt_m1, le_m2, le_m1, Classical.not_not, j_Mem_warmthBy_0, b_Mem_warmthBy_0, j_Mem_warmthBy_9, b_Mem_warmthBy_9, j_Mem_warmthBy_24, b_Mem_warmthBy_24, j_Mem_warmthBy_69, b_Mem_warmthBy_69, j_Mem_warmthBy_71, b_Mem_warmthBy_71, j_Mem_warmthBy_74, b_Mem_warmthBy_74, j_Mem_warmthBy_80, b_Mem_warmthBy_80, j_Mem_warmthBy_86, b_Mem_warmthBy_86, j_Mem_warmthBy_89, b_Mem_warmthBy_89, j_Mem_warmthBy_141, b_Mem_warmthBy_141, j_Mem_warmthBy_147, b_Mem_warmthBy_147, an_0, an_1, cl_0, cl_1, ne_0_1, ne_1_0, vi_0, vi_1, l0, l1, l2, l3, l4, l5, sT0 hc, sT1 hc, sT2 hc, sT3 hc, sT4 hc, sT5 hc, sT6 hc, sT7 hc, sT8 hc, sT9 hc, pT1 hc, pT2 hc, pT3 hc, pT4 hc, pT5 hc, pT6 hc, pT7 hc, pT8 hc, pT9 hc, u1, c1, vin (show k < 4 by omega) (by omega), ncl (show k < 1000 by omega), a1, a2, hbg_3 (show k < 32 by omega) (show ua k < 32 by omega) (show ub k < 32 by omega), nI_1]
    refine ⟨fun q => ?_, fun q => ?_⟩
    · have e : cwu I c ua ub s kn ch k z = z := by
        unfold cwu
        rw [if_neg (by rw [q]; decide)]
      rw [e] at hq
      refine ih (k + 1) z _ (by omega) ?_ ?_ ?_ ?_ ?_ ?_ hq <;> simp [cp_s1_at, cp_nl_int, cp_nl_ref, l0, l1, l2, l3, l4]
    · have q' : (kn.testBit k && (s.testBit (ua k) && s.testBit (ub k))) = true := by
        cases hh : (kn.testBit k && (s.testBit (ua k) && s.testBit (ub k))) with
        | false => exact absurd hh q
        | true => rfl
      have e : cwu I c ua ub s kn ch k z = z + (ch + I (c + 7) k) := by
        unfold cwu
        rw [if_pos q']
      rw [e] at hq
      refine ih (k + 1) _ _ (by omega) ?_ ?_ ?_ ?_ ?_ ?_ hq <;> simp [cp_s1_at, cp_nl_int, cp_nl_ref, l0, l1, l2, l3]
theorem lp_Mem_wb24 {s kn a : Nat} {ch : Int32} (hc : tk c) (hn6 : n ≤ 6) (hn : I c 4 = nI n) (ha : a < n) : ∀ (m b : Nat) (z : Int32) (L : cp_Lo), b + m = n → L 0 = some (.ref c) → L 1 = some (.int (nI s)) → L 2 = some (.int (nI kn)) → L 3 = some (.int ch) → L 4 = some (.int z) → L 5 = some (.int (nI a)) → L 6 = some (.int (nI b)) →
    (∀ L' : cp_Lo, L' 0 = some (.ref c) → L' 1 = some (.int (nI s)) → L' 2 = some (.int (nI kn)) → L' 3 = some (.int ch) → L' 4 = some (.int (fo (cwa (ct0 I c) s ch a) m b z)) → L' 5 = some (.int (nI a)) → RW g false (d + 2) 0 0 m_Mem_warmthBy 0 0 80 L' [] SH I J (PP t u r x) Q) → RW g false (d + 2) 0 0 m_Mem_warmthBy 0 0 24 L [] SH I J (PP t u r x) Q := by
  intro m
  induction m with
  | zero =>
    intro b z L hb l0 l1 l2 l3 l4 l5 l6 hq
    have c1 : nI n ≤ nI b := nI_le (by omega) (by omega)
    refine cp_run 30 (fun t => t == 24 || t == 80) ck_Mem_warmthBy ?_
    simp only [cp_vc, cp_vs, cp_jm, cp_ent_en, cp_en_int, cp_en_ref, cp_en_ret, cp_en_long, cp_en_nil, cp_s1_at, cp_s2_at, cp_nl_int, cp_nl_ref, cp_nl_long, cp_nl_none, cp_pop_0, cp_pop_s, reduceIte, if_true, if_false, Bool.false_eq_true, Bool.true_eq_false, false_implies, implies_true, forall_const, true_implies, true_and, and_true, and_self, true_or, or_true, false_or, or_false, Value.category, List.length_cons, List.length_nil, Option.toList_some, Option.toList_none, List.cons_append, List.nil_append, List.append_nil, Prod.mk.injEq, Nat.add_zero, Nat.zero_add, Nat.reduceAdd, Nat.reduceSub, Nat.reduceEqDiff, Nat.reduceLeDiff, Nat.reduceLT, Nat.le_refl, beq_self_eq_true, Nat.reduceBEq, ne_eq, not_true_eq_false, not_false_eq_true, Int32.reduceAdd, Int32.reduceSub, Int32.reduceMul, Int32.reduceLE, Int32.reduceLT, Int32.reduceToNatClampNeg, b01_0, b01_1, ne_2_0, ne_3_0, ne_4_0, ne_5_0, ne_6_0, ne_m1_0, ne_m2_0, b01_01, b01_n, lt_m2, lt_m1, le_m2, le_m1, Classical.not_not, Bool.or_false, Bool.false_or, Bool.true_or, Bool.or_true, j_Mem_warmthBy_0, b_Mem_warmthBy_0, j_Mem_warmthBy_9, b_Mem_warmthBy_9, j_Mem_warmthBy_24, b_Mem_warmthBy_24, j_Mem_warmthBy_69, b_Mem_warmthBy_69, j_Mem_warmthBy_71, b_Mem_warmthBy_71, j_Mem_warmthBy_74, b_Mem_warmthBy_74, j_Mem_warmthBy_80, b_Mem_warmthBy_80, j_Mem_warmthBy_86, b_Mem_warmthBy_86, j_Mem_warmthBy_89, b_Mem_warmthBy_89, j_Mem_warmthBy_141, b_Mem_warmthBy_141, j_Mem_warmthBy_147, b_Mem_warmthBy_147, an_0, an_1, cl_0, cl_1, ne_0_1, ne_1_0, vi_0, vi_1, l0, l1, l2, l3, l4, l5, l6, sT0 hc, sT1 hc, sT2 hc, sT3 hc, sT4 hc, sT5 hc, sT6 hc, sT7 hc, sT8 hc, sT9 hc, pT1 hc, pT2 hc, pT3 hc, pT4 hc, pT5 hc, pT6 hc, pT7 hc, pT8 hc, pT9 hc, hn, c1]
    exact hq L l0 l1 l2 l3 l4 l5
  | succ m ih =>
    intro b z L hb l0 l1 l2 l3 l4 l5 l6 hq
    have c1 : ¬ nI n ≤ nI b := nI_ge (by omega) (by omega)
    rw [fo] at hq
    refine cp_run 60 (fun t => t == 24 || t == 80) ck_Mem_warmthBy ?_
    simp only [cp_vc, cp_vs, cp_jm, cp_ent_en, cp_en_int, cp_en_ref, cp_en_ret, cp_en_long, cp_en_nil, cp_s1_at, cp_s2_at, cp_nl_int, cp_nl_ref, cp_nl_long, cp_nl_none, cp_pop_0, cp_pop_s, reduceIte, if_true, if_false, Bool.false_eq_true, Bool.true_eq_false, false_implies, implies_true, forall_const, true_implies, true_and, and_true, and_self, true_or, or_true, false_or, or_false, Value.category, List.length_cons, List.length_nil, Option.toList_some, Option.toList_none, List.cons_append, List.nil_append, List.append_nil, Prod.mk.injEq, Nat.add_zero, Nat.zero_add, Nat.reduceAdd, Nat.reduceSub, Nat.reduceEqDiff, Nat.reduceLeDiff, Nat.reduceLT, Nat.le_refl, beq_self_eq_true, Nat.reduceBEq, ne_eq, not_true_eq_false, not_false_eq_true, Int32.reduceAdd, Int32.reduceSub, Int32.reduceMul, Int32.reduceLE, Int32.reduceLT, Int32.reduceToNatClampNeg, b01_0, b01_1, ne_2_0, ne_3_0, ne_4_0, ne_5_0, ne_6_0, ne_m1_0, ne_m2_0, b01_01, b01_n, lt_m2, lt_m1, le_m2, le_m1, Classical.not_not, Bool.or_false, Bool.false_or, Bool.true_or, Bool.or_true, j_Mem_warmthBy_0, b_Mem_warmthBy_0, j_Mem_warmthBy_9, b_Mem_warmthBy_9, j_Mem_warmthBy_24, b_Mem_warmthBy_24, j_Mem_warmthBy_69, b_Mem_warmthBy_69, j_Mem_warmthBy_71, b_Mem_warmthBy_71, j_Mem_warmthBy_74, b_Mem_warmthBy_74, j_Mem_warmthBy_80, b_Mem_warmthBy_80, j_Mem_warmthBy_86, b_Mem_warmthBy_86, j_Mem_warmthBy_89, b_Mem_warmthBy_89, j_Mem_warmthBy_141, b_Mem_warmthBy_141, j_Mem_warmthBy_147, b_Mem_warmthBy_147, an_0, an_1, cl_0, cl_1, ne_0_1, ne_1_0, vi_0, vi_1, l0, l1, l2, l3, l4, l5, l6, sT0 hc, sT1 hc, sT2 hc, sT3 hc, sT4 hc, sT5 hc, sT6 hc, sT7 hc, sT8 hc, sT9 hc, pT1 hc, pT2 hc, pT3 hc, pT4 hc, pT5 hc, pT6 hc, pT7 hc, pT8 hc, pT9 hc, hn, c1, hbg_2 (show a < 32 by omega) (show b < 32 by omega), nI_1]
    refine ⟨fun q => ?_, fun q => ?_⟩
    · have e : cwa (ct0 I c) s ch a b z = z := by
        unfold cwa
        rw [if_neg (by rw [q]; decide)]
      rw [e] at hq
      refine ih (b + 1) z _ (by omega) ?_ ?_ ?_ ?_ ?_ ?_ ?_ hq <;> simp [cp_s1_at, cp_nl_int, cp_nl_ref, l0, l1, l2, l3, l4, l5]
    · have q' : (s.testBit a && s.testBit b) = true := by
        cases hh : (s.testBit a && s.testBit b) with
        | false => exact absurd hh q
        | true => rfl
      refine c_Told_tieAtFirst hc (by omega) (by omega) ?_
      simp only [cp_kk, cp_vc, cp_vs, cp_jm, cp_ent_en, cp_en_int, cp_en_ref, cp_en_ret, cp_en_long, cp_en_nil, cp_s1_at, cp_s2_at, cp_nl_int, cp_nl_ref, cp_nl_long, cp_nl_none, cp_pop_0, cp_pop_s, reduceIte, if_true, if_false, Bool.false_eq_true, Bool.true_eq_false, false_implies, implies_true, forall_const, true_implies, true_and, and_true, and_self, true_or, or_true, false_or, or_false, Value.category, List.length_cons, List.length_nil, Option.toList_some, Option.toList_none, List.cons_append, List.nil_append, List.append_nil, Prod.mk.injEq, Nat.add_zero, Nat.zero_add, Nat.reduceAdd, Nat.reduceSub, Nat.reduceEqDiff, Nat.reduceLeDiff, Nat.reduceLT, Nat.le_refl, beq_self_eq_true, Nat.reduceBEq, ne_eq, not_true_eq_false, not_false_eq_true, Int32.reduceAdd, Int32.reduceSub, Int32.reduceMul, Int32.reduceLE, Int32.reduceLT, Int32.reduceToNatClampNeg, b01_0, b01_1, ne_2_0, ne_3_0, ne_4_0, ne_5_0, ne_6_0, ne_m1_0, ne_m2_0, b01_01, b01_n, lt_m2, lt_m1, le_m2, le_m1, Classical.not_not, Bool.or_false, Bool.false_or, Bool.true_or, Bool.or_true, j_Mem_warmthBy_0, b_Mem_warmthBy_0, j_Mem_warmthBy_9, b_Mem_warmthBy_9, j_Mem_warmthBy_24, b_Mem_warmthBy_24, j_Mem_warmthBy_69, b_Mem_warmthBy_69, j_Mem_warmthBy_71, b_Mem_warmthBy_71, j_Mem_warmthBy_74, b_Mem_warmthBy_74, j_Mem_warmthBy_80, b_Mem_warmthBy_80, j_Mem_warmthBy_86, b_Mem_warmthBy_86, j_Mem_warmthBy_89, b_Mem_warmthBy_89, j_Mem_warmthBy_141, b_Mem_warmthBy_141, j_Mem_warmthBy_147, b_Mem_warmthBy_147, an_0, an_1, cl_0, cl_1, ne_0_1, ne_1_0, vi_0, vi_1, l0, l1, l2, l3, l4, l5, l6, nI_1]
      refine ⟨fun q2 => ?_, fun q2 => ?_⟩
      · have e : cwa (ct0 I c) s ch a b z = z + I (c + 4) (6 * a + b) := by
          unfold cwa sp_pr ct0
          rw [if_pos q', if_neg q2]
        rw [e] at hq
        refine ih (b + 1) _ _ (by omega) ?_ ?_ ?_ ?_ ?_ ?_ ?_ hq <;> simp [cp_s1_at, cp_nl_int, cp_nl_ref, l0, l1, l2, l3, l5]
      · have e : cwa (ct0 I c) s ch a b z = z + -ch := by
          unfold cwa sp_pr ct0
          rw [if_pos q', if_pos q2]
        rw [e] at hq
        refine ih (b + 1) _ _ (by omega) ?_ ?_ ?_ ?_ ?_ ?_ ?_ hq <;> simp [cp_s1_at, cp_nl_int, cp_nl_ref, l0, l1, l2, l3, l5]
theorem lp_Mem_wb9 {um tm s kn : Nat} {ua ub fs : Nat → Nat} {ch : Int32} (hc : tk c) (hn6 : n ≤ 6) (hn : I c 4 = nI n) (hU : cU I c um tm ua ub fs) : ∀ (m a : Nat) (z : Int32) (L : cp_Lo), a + m = n → L 0 = some (.ref c) → L 1 = some (.int (nI s)) → L 2 = some (.int (nI kn)) → L 3 = some (.int ch) → L 4 = some (.int z) → L 5 = some (.int (nI a)) →
    Q (some (.int (sp_cl (fo (cwu I c ua ub s kn ch) um 0 (fo (cwp I c n s ch) m a z))))) SH I J (PP t u r x) → RW g false (d + 2) 0 0 m_Mem_warmthBy 0 0 9 L [] SH I J (PP t u r x) Q := by
  intro m
  induction m with
  | zero =>
    intro a z L ha l0 l1 l2 l3 l4 l5 hq
    have c1 : nI n ≤ nI a := nI_le (by omega) (by omega)
    refine cp_run 30 (fun t => t == 9 || t == 89) ck_Mem_warmthBy ?_
    simp only [cp_vc, cp_vs, cp_jm, cp_ent_en, cp_en_int, cp_en_ref, cp_en_ret, cp_en_long, cp_en_nil, cp_s1_at, cp_s2_at, cp_nl_int, cp_nl_ref, cp_nl_long, cp_nl_none, cp_pop_0, cp_pop_s, reduceIte, if_true, if_false, Bool.false_eq_true, Bool.true_eq_false, false_implies, implies_true, forall_const, true_implies, true_and, and_true, and_self, true_or, or_true, false_or, or_false, Value.category, List.length_cons, List.length_nil, Option.toList_some, Option.toList_none, List.cons_append, List.nil_append, List.append_nil, Prod.mk.injEq, Nat.add_zero, Nat.zero_add, Nat.reduceAdd, Nat.reduceSub, Nat.reduceEqDiff, Nat.reduceLeDiff, Nat.reduceLT, Nat.le_refl, beq_self_eq_true, Nat.reduceBEq, ne_eq, not_true_eq_false, not_false_eq_true, Int32.reduceAdd, Int32.reduceSub, Int32.reduceMul, Int32.reduceLE, Int32.reduceLT, Int32.reduceToNatClampNeg, b01_0, b01_1, ne_2_0, ne_3_0, ne_4_0, ne_5_0, ne_6_0, ne_m1_0, ne_m2_0, b01_01, b01_n, lt_m2, lt_m1, le_m2, le_m1, Classical.not_not, Bool.or_false, Bool.false_or, Bool.true_or, Bool.or_true, j_Mem_warmthBy_0, b_Mem_warmthBy_0, j_Mem_warmthBy_9, b_Mem_warmthBy_9, j_Mem_warmthBy_24, b_Mem_warmthBy_24, j_Mem_warmthBy_69, b_Mem_warmthBy_69, j_Mem_warmthBy_71, b_Mem_warmthBy_71, j_Mem_warmthBy_74, b_Mem_warmthBy_74, j_Mem_warmthBy_80, b_Mem_warmthBy_80, j_Mem_warmthBy_86, b_Mem_warmthBy_86, j_Mem_warmthBy_89, b_Mem_warmthBy_89, j_Mem_warmthBy_141, b_Mem_warmthBy_141, j_Mem_warmthBy_147, b_Mem_warmthBy_147, an_0, an_1, cl_0, cl_1, ne_0_1, ne_1_0, vi_0, vi_1, l0, l1, l2, l3, l4, l5, sT0 hc, sT1 hc, sT2 hc, sT3 hc, sT4 hc, sT5 hc, sT6 hc, sT7 hc, sT8 hc, sT9 hc, pT1 hc, pT2 hc, pT3 hc, pT4 hc, pT5 hc, pT6 hc, pT7 hc, pT8 hc, pT9 hc, hn, c1]
    refine lp_Mem_wb89 hc hU um 0 z _ (by omega) ?_ ?_ ?_ ?_ ?_ ?_ hq <;> simp [cp_s1_at, cp_nl_int, cp_nl_ref, l0, l1, l2, l3, l4, nI_0]
  | succ m ih =>
    intro a z L ha l0 l1 l2 l3 l4 l5 hq
    have c1 : ¬ nI n ≤ nI a := nI_ge (by omega) (by omega)
    rw [fo] at hq
    refine cp_run 30 (fun t => t == 9 || t == 24) ck_Mem_warmthBy ?_
    simp only [cp_vc, cp_vs, cp_jm, cp_ent_en, cp_en_int, cp_en_ref, cp_en_ret, cp_en_long, cp_en_nil, cp_s1_at, cp_s2_at, cp_nl_int, cp_nl_ref, cp_nl_long, cp_nl_none, cp_pop_0, cp_pop_s, reduceIte, if_true, if_false, Bool.false_eq_true, Bool.true_eq_false, false_implies, implies_true, forall_const, true_implies, true_and, and_true, and_self, true_or, or_true, false_or, or_false, Value.category, List.length_cons, List.length_nil, Option.toList_some, Option.toList_none, List.cons_append, List.nil_append, List.append_nil, Prod.mk.injEq, Nat.add_zero, Nat.zero_add, Nat.reduceAdd, Nat.reduceSub, Nat.reduceEqDiff, Nat.reduceLeDiff, Nat.reduceLT, Nat.le_refl, beq_self_eq_true, Nat.reduceBEq, ne_eq, not_true_eq_false, not_false_eq_true, Int32.reduceAdd, Int32.reduceSub, Int32.reduceMul, Int32.reduceLE, Int32.reduceLT, Int32.reduceToNatClampNeg, b01_0, b01_1, ne_2_0, ne_3_0, ne_4_0, ne_5_0, ne_6_0, ne_m1_0, ne_m2_0, b01_01, b01_n, lt_m2, lt_m1, le_m2, le_m1, Classical.not_not, Bool.or_false, Bool.false_or, Bool.true_or, Bool.or_true, j_Mem_warmthBy_0, b_Mem_warmthBy_0, j_Mem_warmthBy_9, b_Mem_warmthBy_9, j_Mem_warmthBy_24, b_Mem_warmthBy_24, j_Mem_warmthBy_69, b_Mem_warmthBy_69, j_Mem_warmthBy_71, b_Mem_warmthBy_71, j_Mem_warmthBy_74, b_Mem_warmthBy_74, j_Mem_warmthBy_80, b_Mem_warmthBy_80, j_Mem_warmthBy_86, b_Mem_warmthBy_86, j_Mem_warmthBy_89, b_Mem_warmthBy_89, j_Mem_warmthBy_141, b_Mem_warmthBy_141, j_Mem_warmthBy_147, b_Mem_warmthBy_147, an_0, an_1, cl_0, cl_1, ne_0_1, ne_1_0, vi_0, vi_1, l0, l1, l2, l3, l4, l5, sT0 hc, sT1 hc, sT2 hc, sT3 hc, sT4 hc, sT5 hc, sT6 hc, sT7 hc, sT8 hc, sT9 hc, pT1 hc, pT2 hc, pT3 hc, pT4 hc, pT5 hc, pT6 hc, pT7 hc, pT8 hc, pT9 hc, hn, c1, nI_1]
    refine lp_Mem_wb24 (a := a) (s := s) (kn := kn) (ch := ch) hc hn6 hn (by omega) (n - (a + 1)) (a + 1) z _ (by omega) ?_ ?_ ?_ ?_ ?_ ?_ ?_ ?_
    · simp [cp_s1_at, cp_nl_int, cp_nl_ref, l0]
    · simp [cp_s1_at, cp_nl_int, cp_nl_ref, l1]
    · simp [cp_s1_at, cp_nl_int, cp_nl_ref, l2]
    · simp [cp_s1_at, cp_nl_int, cp_nl_ref, l3]
    · simp [cp_s1_at, cp_nl_int, cp_nl_ref, l4]
    · simp [cp_s1_at, cp_nl_int, cp_nl_ref, l5]
    · simp [cp_s1_at]
    · intro L' k0 k1 k2 k3 k4 k5
      refine cp_run 30 (fun t => t == 9) ck_Mem_warmthBy ?_
      simp only [cp_vc, cp_vs, cp_jm, cp_ent_en, cp_en_int, cp_en_ref, cp_en_ret, cp_en_long, cp_en_nil, cp_s1_at, cp_s2_at, cp_nl_int, cp_nl_ref, cp_nl_long, cp_nl_none, cp_pop_0, cp_pop_s, reduceIte, if_true, if_false, Bool.false_eq_true, Bool.true_eq_false, false_implies, implies_true, forall_const, true_implies, true_and, and_true, and_self, true_or, or_true, false_or, or_false, Value.category, List.length_cons, List.length_nil, Option.toList_some, Option.toList_none, List.cons_append, List.nil_append, List.append_nil, Prod.mk.injEq, Nat.add_zero, Nat.zero_add, Nat.reduceAdd, Nat.reduceSub, Nat.reduceEqDiff, Nat.reduceLeDiff, Nat.reduceLT, Nat.le_refl, beq_self_eq_true, Nat.reduceBEq, ne_eq, not_true_eq_false, not_false_eq_true, Int32.reduceAdd, Int32.reduceSub, Int32.reduceMul, Int32.reduceLE, Int32.reduceLT, Int32.reduceToNatClampNeg, b01_0, b01_1, ne_2_0, ne_3_0, ne_4_0, ne_5_0, ne_6_0, ne_m1_0, ne_m2_0, b01_01, b01_n, lt_m2, lt_m1, le_m2, le_m1, Classical.not_not, j_Mem_warmthBy_0, b_Mem_warmthBy_0, j_Mem_warmthBy_9, b_Mem_warmthBy_9, j_Mem_warmthBy_24, b_Mem_warmthBy_24, j_Mem_warmthBy_69, b_Mem_warmthBy_69, j_Mem_warmthBy_71, b_Mem_warmthBy_71, j_Mem_warmthBy_74, b_Mem_warmthBy_74, j_Mem_warmthBy_80, b_Mem_warmthBy_80, j_Mem_warmthBy_86, b_Mem_warmthBy_86, j_Mem_warmthBy_89, b_Mem_warmthBy_89, j_Mem_warmthBy_141, b_Mem_warmthBy_141, j_Mem_warmthBy_147, b_Mem_warmthBy_147, an_0, an_1, cl_0, cl_1, ne_0_1, ne_1_0, vi_0, vi_1, k0, k1, k2, k3, k4, k5, nI_1]
      refine ih (a + 1) _ _ (by omega) ?_ ?_ ?_ ?_ ?_ ?_ hq <;> simp [cp_s1_at, cp_nl_int, cp_nl_ref, k0, k1, k2, k3, k4, cwp]
theorem c_Mem_warmthBy {um tm s kn : Nat} {ua ub fs : Nat → Nat} {ch : Int32} (hc : tk c) (hn6 : n ≤ 6) (hn : I c 4 = nI n) (hU : cU I c um tm ua ub fs) (h : Q (some (.int (cwb I c n um ua ub s kn ch))) SH I J (PP t u r x)) : MW g false (d + 2) 0 0 m_Mem_warmthBy [.ref c, .int (nI s), .int (nI kn), .int ch] SH I J (PP t u r x) Q := by
  refine MW.of ok_Mem_warmthBy (Nat.le_of_ble_eq_true rfl) ?_
  refine cp_run 20 (fun t => t == 9) ck_Mem_warmthBy ?_
  simp only [cp_vc, cp_vs, cp_jm, cp_ent_en, cp_en_int, cp_en_ref, cp_en_ret, cp_en_long, cp_en_nil, cp_s1_at, cp_s2_at, cp_nl_int, cp_nl_ref, cp_nl_long, cp_nl_none, cp_pop_0, cp_pop_s, reduceIte, if_true, if_false, Bool.false_eq_true, Bool.true_eq_false, false_implies, implies_true, forall_const, true_implies, true_and, and_true, and_self, true_or, or_true, false_or, or_false, Value.category, List.length_cons, List.length_nil, Option.toList_some, Option.toList_none, List.cons_append, List.nil_append, List.append_nil, Prod.mk.injEq, Nat.add_zero, Nat.zero_add, Nat.reduceAdd, Nat.reduceSub, Nat.reduceEqDiff, Nat.reduceLeDiff, Nat.reduceLT, Nat.le_refl, beq_self_eq_true, Nat.reduceBEq, ne_eq, not_true_eq_false, not_false_eq_true, Int32.reduceAdd, Int32.reduceSub, Int32.reduceMul, Int32.reduceLE, Int32.reduceLT, Int32.reduceToNatClampNeg, b01_0, b01_1, ne_2_0, ne_3_0, ne_4_0, ne_5_0, ne_6_0, ne_m1_0, ne_m2_0, b01_01, b01_n, lt_m2, lt_m1, le_m2, le_m1, Classical.not_not, j_Mem_warmthBy_0, b_Mem_warmthBy_0, j_Mem_warmthBy_9, b_Mem_warmthBy_9, j_Mem_warmthBy_24, b_Mem_warmthBy_24, j_Mem_warmthBy_69, b_Mem_warmthBy_69, j_Mem_warmthBy_71, b_Mem_warmthBy_71, j_Mem_warmthBy_74, b_Mem_warmthBy_74, j_Mem_warmthBy_80, b_Mem_warmthBy_80, j_Mem_warmthBy_86, b_Mem_warmthBy_86, j_Mem_warmthBy_89, b_Mem_warmthBy_89, j_Mem_warmthBy_141, b_Mem_warmthBy_141, j_Mem_warmthBy_147, b_Mem_warmthBy_147, an_0, an_1, cl_0, cl_1, ne_0_1, ne_1_0, vi_0, vi_1, sT0 hc, sT1 hc, sT2 hc, sT3 hc, sT4 hc, sT5 hc, sT6 hc, sT7 hc, sT8 hc, sT9 hc, pT1 hc, pT2 hc, pT3 hc, pT4 hc, pT5 hc, pT6 hc, pT7 hc, pT8 hc, pT9 hc]
  refine lp_Mem_wb9 hc hn6 hn hU n 0 (I c 0) _ (by omega) ?_ ?_ ?_ ?_ ?_ ?_ h <;> simp [cp_s1_at, cp_ent_en, cp_en_ref, cp_en_int, cp_nl_ref, cp_nl_int, nI_0]
/-- the first felt that isn't so -/
def cfu (I : cp_I) (c n um tm : Nat) (ua ub fs : Nat → Nat) (kn : Nat) (ch : Int32) : Nat → Nat → Option Nat := sp_fst (fun k => decide (¬ cwb I c n um ua ub (fs k) kn ch = I (c + 8) k))
theorem lp_Mem_fub {um tm kn : Nat} {ua ub fs : Nat → Nat} {ch : Int32} (hc : tk c) (hn6 : n ≤ 6) (hn : I c 4 = nI n) (hU : cU I c um tm ua ub fs) : ∀ (m k : Nat) (L : cp_Lo), k + m = tm → L 0 = some (.ref c) → L 1 = some (.int (nI kn)) → L 2 = some (.int ch) → L 3 = some (.int (nI k)) →
    Q (some (.int (oI (cfu I c n um tm ua ub fs kn ch m k)))) SH I J (PP t u r x) → RW g false (d + 3) 0 0 m_Mem_firstUntrueBy 0 0 2 L [] SH I J (PP t u r x) Q := by
  obtain ⟨-, ⟨u1, u2⟩, -, u4⟩ := id hU
  intro m
  induction m with
  | zero =>
    intro k L hk l0 l1 l2 l3 hq
    have c1 : nI tm ≤ nI k := nI_le (by omega) (by omega)
    refine cp_run 30 (fun t => t == 2) ck_Mem_firstUntrueBy ?_
    simp only [cp_vc, cp_vs, cp_jm, cp_ent_en, cp_en_int, cp_en_ref, cp_en_ret, cp_en_long, cp_en_nil, cp_s1_at, cp_s2_at, cp_nl_int, cp_nl_ref, cp_nl_long, cp_nl_none, cp_pop_0, cp_pop_s, reduceIte, if_true, if_false, Bool.false_eq_true, Bool.true_eq_false, false_implies, implies_true, forall_const, true_implies, true_and, and_true, and_self, true_or, or_true, false_or, or_false, Value.category, List.length_cons, List.length_nil, Option.toList_some, Option.toList_none, List.cons_append, List.nil_append, List.append_nil, Prod.mk.injEq, Nat.add_zero, Nat.zero_add, Nat.reduceAdd, Nat.reduceSub, Nat.reduceEqDiff, Nat.reduceLeDiff, Nat.reduceLT, Nat.le_refl, beq_self_eq_true, Nat.reduceBEq, ne_eq, not_true_eq_false, not_false_eq_true, Int32.reduceAdd, Int32.reduceSub, Int32.reduceMul, Int32.reduceLE, Int32.reduceLT, Int32.reduceToNatClampNeg, b01_0, b01_1, ne_2_0, ne_3_0, ne_4_0, ne_5_0, ne_6_0, ne_m1_0, ne_m2_0, b01_01, b01_n, lt_m2, lt_m1, le_m2, le_m1, Classical.not_not, j_Mem_firstUntrueBy_0, b_Mem_firstUntrueBy_0, j_Mem_firstUntrueBy_2, b_Mem_firstUntrueBy_2, j_Mem_firstUntrueBy_33, b_Mem_firstUntrueBy_33, j_Mem_firstUntrueBy_39, b_Mem_firstUntrueBy_39, an_0, an_1, cl_0, ne_0_1, ne_0_m2, ne_1_0, ne_1_m2, ne_m2_0, ne_m2_1, vi_0, l0, l1, l2, l3, sT0 hc, sT1 hc, sT2 hc, sT3 hc, sT4 hc, sT5 hc, sT6 hc, sT7 hc, sT8 hc, sT9 hc, pT1 hc, pT2 hc, pT3 hc, pT4 hc, pT5 hc, pT6 hc, pT7 hc, pT8 hc, pT9 hc, u1, c1]
    exact hq
  | succ m ih =>
    intro k L hk l0 l1 l2 l3 hq
    have c1 : ¬ nI tm ≤ nI k := nI_ge (by omega) (by omega)
    obtain ⟨a1, a2⟩ := u4 k (by omega)
    unfold cfu at hq
    rw [sp_fst] at hq
    refine cp_run 40 (fun t => t == 2) ck_Mem_firstUntrueBy ?_
    simp only [cp_vc, cp_vs, cp_jm, cp_ent_en, cp_en_int, cp_en_ref, cp_en_ret, cp_en_long, cp_en_nil, cp_s1_at, cp_s2_at, cp_nl_int, cp_nl_ref, cp_nl_long, cp_nl_none, cp_pop_0, cp_pop_s, reduceIte, if_true, if_false, Bool.false_eq_true, Bool.true_eq_false, false_implies, implies_true, forall_const, true_implies, true_and, and_true, and_self, true_or, or_true, false_or, or_false, Value.category, List.length_cons, List.length_nil, Option.toList_some, Option.toList_none, List.cons_append, List.nil_append, List.append_nil, Prod.mk.injEq, Nat.add_zero, Nat.zero_add, Nat.reduceAdd, Nat.reduceSub, Nat.reduceEqDiff, Nat.reduceLeDiff, Nat.reduceLT, Nat.le_refl, beq_self_eq_true, Nat.reduceBEq, ne_eq, not_true_eq_false, not_false_eq_true, Int32.reduceAdd, Int32.reduceSub, Int32.reduceMul, Int32.reduceLE, Int32.reduceLT, Int32.reduceToNatClampNeg, b01_0, b01_1, ne_2_0, ne_3_0, ne_4_0, ne_5_0, ne_6_0, ne_m1_0, ne_m2_0, b01_01, b01_n, lt_m2, lt_m1, le_m2, le_m1, Classical.not_not, j_Mem_firstUntrueBy_0, b_Mem_firstUntrueBy_0, j_Mem_firstUntrueBy_2, b_Mem_firstUntrueBy_2, j_Mem_firstUntrueBy_33, b_Mem_firstUntrueBy_33, j_Mem_firstUntrueBy_39, b_Mem_firstUntrueBy_39, an_0, an_1, cl_0, ne_0_1, ne_0_m2, ne_1_0, ne_1_m2, ne_m2_0, ne_m2_1, vi_0, l0, l1, l2, l3, sT0 hc, sT1 hc, sT2 hc, sT3 hc, sT4 hc, sT5 hc, sT6 hc, sT7 hc, sT8 hc, sT9 hc, pT1 hc, pT2 hc, pT3 hc, pT4 hc, pT5 hc, pT6 hc, pT7 hc, pT8 hc, pT9 hc, u1, c1, vin (show k < 4 by omega) (by omega), ncl (show k < 1000 by omega), a1]
    refine c_Mem_warmthBy hc hn6 hn hU ?_
    simp only [cp_kk, cp_vc, cp_vs, cp_jm, cp_ent_en, cp_en_int, cp_en_ref, cp_en_ret, cp_en_long, cp_en_nil, cp_s1_at, cp_s2_at, cp_nl_int, cp_nl_ref, cp_nl_long, cp_nl_none, cp_pop_0, cp_pop_s, reduceIte, if_true, if_false, Bool.false_eq_true, Bool.true_eq_false, false_implies, implies_true, forall_const, true_implies, true_and, and_true, and_self, true_or, or_true, false_or, or_false, Value.category, List.length_cons, List.length_nil, Option.toList_some, Option.toList_none, List.cons_append, List.nil_append, List.append_nil, Prod.mk.injEq, Nat.add_zero, Nat.zero_add, Nat.reduceAdd, Nat.reduceSub, Nat.reduceEqDiff, Nat.reduceLeDiff, Nat.reduceLT, Nat.le_refl, beq_self_eq_true, Nat.reduceBEq, ne_eq, not_true_eq_false, not_false_eq_true, Int32.reduceAdd, Int32.reduceSub, Int32.reduceMul, Int32.reduceLE, Int32.reduceLT, Int32.reduceToNatClampNeg, b01_0, b01_1, ne_2_0, ne_3_0, ne_4_0, ne_5_0, ne_6_0, ne_m1_0, ne_m2_0, b01_01, b01_n, lt_m2, lt_m1, le_m2, le_m1, Classical.not_not, Bool.or_false, Bool.false_or, Bool.true_or, Bool.or_true, j_Mem_firstUntrueBy_0, b_Mem_firstUntrueBy_0, j_Mem_firstUntrueBy_2, b_Mem_firstUntrueBy_2, j_Mem_firstUntrueBy_33, b_Mem_firstUntrueBy_33, j_Mem_firstUntrueBy_39, b_Mem_firstUntrueBy_39, an_0, an_1, cl_0, ne_0_1, ne_0_m2, ne_1_0, ne_1_m2, ne_m2_0, ne_m2_1, vi_0, l0, l1, l2, l3, sT0 hc, sT1 hc, sT2 hc, sT3 hc, sT4 hc, sT5 hc, sT6 hc, sT7 hc, sT8 hc, sT9 hc, pT1 hc, pT2 hc, pT3 hc, pT4 hc, pT5 hc, pT6 hc, pT7 hc, pT8 hc, pT9 hc, vin (show k < 4 by omega) (by omega), ncl (show k < 1000 by omega), nI_1]
    refine ⟨fun q => ?_, fun q => ?_⟩
    · rw [if_neg (by simp [q])] at hq
      refine ih (k + 1) _ (by omega) ?_ ?_ ?_ ?_ hq <;> simp [cp_s1_at, cp_nl_int, cp_nl_ref, l0, l1, l2]
    · rw [if_pos (by simp [q])] at hq
      exact hq
theorem c_Mem_fub {um tm kn : Nat} {ua ub fs : Nat → Nat} {ch : Int32} (hc : tk c) (hn6 : n ≤ 6) (hn : I c 4 = nI n) (hU : cU I c um tm ua ub fs) (h : Q (some (.int (oI (cfu I c n um tm ua ub fs kn ch tm 0)))) SH I J (PP t u r x)) : MW g false (d + 3) 0 0 m_Mem_firstUntrueBy [.ref c, .int (nI kn), .int ch] SH I J (PP t u r x) Q := by
  refine MW.of ok_Mem_firstUntrueBy (Nat.le_of_ble_eq_true rfl) ?_
  refine cp_run 20 (fun t => t == 2) ck_Mem_firstUntrueBy ?_
  simp only [cp_vc, cp_vs, cp_jm, cp_ent_en, cp_en_int, cp_en_ref, cp_en_ret, cp_en_long, cp_en_nil, cp_s1_at, cp_s2_at, cp_nl_int, cp_nl_ref, cp_nl_long, cp_nl_none, cp_pop_0, cp_pop_s, reduceIte, if_true, if_false, Bool.false_eq_true, Bool.true_eq_false, false_implies, implies_true, forall_const, true_implies, true_and, and_true, and_self, true_or, or_true, false_or, or_false, Value.category, List.length_cons, List.length_nil, Option.toList_some, Option.toList_none, List.cons_append, List.nil_append, List.append_nil, Prod.mk.injEq, Nat.add_zero, Nat.zero_add, Nat.reduceAdd, Nat.reduceSub, Nat.reduceEqDiff, Nat.reduceLeDiff, Nat.reduceLT, Nat.le_refl, beq_self_eq_true, Nat.reduceBEq, ne_eq, not_true_eq_false, not_false_eq_true, Int32.reduceAdd, Int32.reduceSub, Int32.reduceMul, Int32.reduceLE, Int32.reduceLT, Int32.reduceToNatClampNeg, b01_0, b01_1, ne_2_0, ne_3_0, ne_4_0, ne_5_0, ne_6_0, ne_m1_0, ne_m2_0, b01_01, b01_n, lt_m2, lt_m1, le_m2, le_m1, Classical.not_not, j_Mem_firstUntrueBy_0, b_Mem_firstUntrueBy_0, j_Mem_firstUntrueBy_2, b_Mem_firstUntrueBy_2, j_Mem_firstUntrueBy_33, b_Mem_firstUntrueBy_33, j_Mem_firstUntrueBy_39, b_Mem_firstUntrueBy_39, an_0, an_1, cl_0, ne_0_1, ne_0_m2, ne_1_0, ne_1_m2, ne_m2_0, ne_m2_1, vi_0]
  refine lp_Mem_fub hc hn6 hn hU tm 0 _ (by omega) ?_ ?_ ?_ ?_ h <;> simp [cp_s1_at, cp_ent_en, cp_en_ref, cp_en_int, cp_nl_ref, cp_nl_int, nI_0]
theorem c_Mem_firstUntrue {um tm : Nat} {ua ub fs : Nat → Nat} (hc : tk c) (hn6 : n ≤ 6) (hn : I c 4 = nI n) (hU : cU I c um tm ua ub fs) (h : Q (some (.int (oI (cfu I c n um tm ua ub fs 0 (I c 1) tm 0)))) SH I J (PP t u r x)) : MW g false (d + 4) 0 0 m_Mem_firstUntrue [.ref 42, .ref c] SH I J (PP t u r x) Q := by
  refine MW.of ok_Mem_firstUntrue (Nat.le_of_ble_eq_true rfl) ?_
  refine cp_run 20 (fun _ => false) ck_Mem_firstUntrue ?_
  simp only [cp_vc, cp_vs, cp_jm, cp_ent_en, cp_en_int, cp_en_ref, cp_en_ret, cp_en_long, cp_en_nil, cp_s1_at, cp_s2_at, cp_nl_int, cp_nl_ref, cp_nl_long, cp_nl_none, cp_pop_0, cp_pop_s, reduceIte, if_true, if_false, Bool.false_eq_true, Bool.true_eq_false, false_implies, implies_true, forall_const, true_implies, true_and, and_true, and_self, true_or, or_true, false_or, or_false, Value.category, List.length_cons, List.length_nil, Option.toList_some, Option.toList_none, List.cons_append, List.nil_append, List.append_nil, Prod.mk.injEq, Nat.add_zero, Nat.zero_add, Nat.reduceAdd, Nat.reduceSub, Nat.reduceEqDiff, Nat.reduceLeDiff, Nat.reduceLT, Nat.le_refl, beq_self_eq_true, Nat.reduceBEq, ne_eq, not_true_eq_false, not_false_eq_true, Int32.reduceAdd, Int32.reduceSub, Int32.reduceMul, Int32.reduceLE, Int32.reduceLT, Int32.reduceToNatClampNeg, b01_0, b01_1, ne_2_0, ne_3_0, ne_4_0, ne_5_0, ne_6_0, ne_m1_0, ne_m2_0, b01_01, b01_n, lt_m2, lt_m1, le_m2, le_m1, Classical.not_not, j_Mem_firstUntrue_0, b_Mem_firstUntrue_0, an_0, an_1, cl_0, ne_0_1, ne_1_0, vi_0, sT0 hc, sT1 hc, sT2 hc, sT3 hc, sT4 hc, sT5 hc, sT6 hc, sT7 hc, sT8 hc, sT9 hc, pT1 hc, pT2 hc, pT3 hc, pT4 hc, pT5 hc, pT6 hc, pT7 hc, pT8 hc, pT9 hc]
  refine c_Mem_fub (kn := 0) hc hn6 hn hU ?_
  simp only [cp_kk, cp_vc, cp_vs, cp_jm, cp_ent_en, cp_en_int, cp_en_ref, cp_en_ret, cp_en_long, cp_en_nil, cp_s1_at, cp_s2_at, cp_nl_int, cp_nl_ref, cp_nl_long, cp_nl_none, cp_pop_0, cp_pop_s, reduceIte, if_true, if_false, Bool.false_eq_true, Bool.true_eq_false, false_implies, implies_true, forall_const, true_implies, true_and, and_true, and_self, true_or, or_true, false_or, or_false, Value.category, List.length_cons, List.length_nil, Option.toList_some, Option.toList_none, List.cons_append, List.nil_append, List.append_nil, Prod.mk.injEq, Nat.add_zero, Nat.zero_add, Nat.reduceAdd, Nat.reduceSub, Nat.reduceEqDiff, Nat.reduceLeDiff, Nat.reduceLT, Nat.le_refl, beq_self_eq_true, Nat.reduceBEq, ne_eq, not_true_eq_false, not_false_eq_true, Int32.reduceAdd, Int32.reduceSub, Int32.reduceMul, Int32.reduceLE, Int32.reduceLT, Int32.reduceToNatClampNeg, b01_0, b01_1, ne_2_0, ne_3_0, ne_4_0, ne_5_0, ne_6_0, ne_m1_0, ne_m2_0, b01_01, b01_n, lt_m2, lt_m1, le_m2, le_m1, Classical.not_not, Bool.or_false, Bool.false_or, Bool.true_or, Bool.or_true, j_Mem_firstUntrue_0, b_Mem_firstUntrue_0, an_0, an_1, cl_0, ne_0_1, ne_1_0, vi_0]
  exact h
theorem cfu_lt {um tm kn : Nat} {ua ub fs : Nat → Nat} {ch : Int32} {m k b : Nat} (h : cfu I c n um tm ua ub fs kn ch m k = some b) : b < k + m := by
  unfold cfu at h
  have key : ∀ {p : Nat → Bool} {m k b : Nat}, sp_fst p m k = some b → b < k + m := by
    intro p m
    induction m with
    | zero => intro k b h; simp [sp_fst] at h
    | succ m ih =>
      intro k b h
      rw [sp_fst] at h
      split at h
      · simp only [Option.some.injEq] at h
        omega
      · have := ih h
        omega
  exact key h
theorem oI_nn {o : Option Nat} (h : ∀ b, o = some b → b < 1000) : (oI o = -2) = (o.isNone = true) := by
  cases o with
  | none => simp [oI]
  | some b =>
    have hb := h b rfl
    simp only [oI, eq_iff_iff, Option.isNone_some, Bool.false_eq_true, iff_false]
    intro q
    have := nI_pos (n := b) (by omega)
    rw [q] at this
    exact this (by decide +kernel)
/-- a set of unsure pairs that fits -/
def cft (I : cp_I) (c n um tm : Nat) (ua ub fs : Nat → Nat) (kn : Nat) : Bool := (cfu I c n um tm ua ub fs kn (I c 1) tm 0).isNone
def cfi (I : cp_I) (c n um tm : Nat) (ua ub fs : Nat → Nat) : Nat := sp_set (2 ^ um) (cft I c n um tm ua ub fs)
theorem lp_Mem_fitting {um tm : Nat} {ua ub fs : Nat → Nat} (hc : tk c) (hn6 : n ≤ 6) (hn : I c 4 = nI n) (hU : cU I c um tm ua ub fs) : ∀ (m k z : Nat) (L : cp_Lo), k + m = 2 ^ um → L 0 = some (.ref 42) → L 1 = some (.ref c) → L 2 = some (.int (nI z)) → L 3 = some (.int (nI k)) →
    Q (some (.int (nI (fo (fun b z => if cft I c n um tm ua ub fs b = true then z ||| 2 ^ b else z) m k z)))) SH I J (PP t u r x) → RW g false (d + 4) 0 0 m_Mem_fitting 0 0 4 L [] SH I J (PP t u r x) Q := by
  obtain ⟨⟨u1, u2⟩, ⟨u5, u6⟩, -, -⟩ := id hU
  have hp : 2 ^ um ≤ 16 := by
    have : 2 ^ um ≤ 2 ^ 4 := Nat.pow_le_pow_right (by omega) u2
    omega
  intro m
  induction m with
  | zero =>
    intro k z L hk l0 l1 l2 l3 hq
    have c1 : nI (2 ^ um) ≤ nI k := nI_le (by omega) (by omega)
    refine cp_run 30 (fun t => t == 4) ck_Mem_fitting ?_
    simp only [cp_vc, cp_vs, cp_jm, cp_ent_en, cp_en_int, cp_en_ref, cp_en_ret, cp_en_long, cp_en_nil, cp_s1_at, cp_s2_at, cp_nl_int, cp_nl_ref, cp_nl_long, cp_nl_none, cp_pop_0, cp_pop_s, reduceIte, if_true, if_false, Bool.false_eq_true, Bool.true_eq_false, false_implies, implies_true, forall_const, true_implies, true_and, and_true, and_self, true_or, or_true, false_or, or_false, Value.category, List.length_cons, List.length_nil, Option.toList_some, Option.toList_none, List.cons_append, List.nil_append, List.append_nil, Prod.mk.injEq, Nat.add_zero, Nat.zero_add, Nat.reduceAdd, Nat.reduceSub, Nat.reduceEqDiff, Nat.reduceLeDiff, Nat.reduceLT, Nat.le_refl, beq_self_eq_true, Nat.reduceBEq, ne_eq, not_true_eq_false, not_false_eq_true, Int32.reduceAdd, Int32.reduceSub, Int32.reduceMul, Int32.reduceLE, Int32.reduceLT, Int32.reduceToNatClampNeg, b01_0, b01_1, ne_2_0, ne_3_0, ne_4_0, ne_5_0, ne_6_0, ne_m1_0, ne_m2_0, b01_01, b01_n, lt_m2, lt_m1, le_m2, le_m1, Classical.not_not, j_Mem_fitting_0, b_Mem_fitting_0, j_Mem_fitting_4, b_Mem_fitting_4, j_Mem_fitting_34, b_Mem_fitting_34, j_Mem_fitting_40, b_Mem_fitting_40, an_0, an_1, cl_0, cl_1, ne_0_1, ne_0_m2, ne_1_0, ne_1_m2, ne_m2_0, ne_m2_1, vi_0, vi_1, l0, l1, l2, l3, sT0 hc, sT1 hc, sT2 hc, sT3 hc, sT4 hc, sT5 hc, sT6 hc, sT7 hc, sT8 hc, sT9 hc, pT1 hc, pT2 hc, pT3 hc, pT4 hc, pT5 hc, pT6 hc, pT7 hc, pT8 hc, pT9 hc, u1, sh1 (show um < 8 by omega), c1]
    exact hq
  | succ m ih =>
    intro k z L hk l0 l1 l2 l3 hq
    have c1 : ¬ nI (2 ^ um) ≤ nI k := nI_ge (by omega) (by omega)
    rw [fo] at hq
    refine cp_run 40 (fun t => t == 4) ck_Mem_fitting ?_
    simp only [cp_vc, cp_vs, cp_jm, cp_ent_en, cp_en_int, cp_en_ref, cp_en_ret, cp_en_long, cp_en_nil, cp_s1_at, cp_s2_at, cp_nl_int, cp_nl_ref, cp_nl_long, cp_nl_none, cp_pop_0, cp_pop_s, reduceIte, if_true, if_false, Bool.false_eq_true, Bool.true_eq_false, false_implies, implies_true, forall_const, true_implies, true_and, and_true, and_self, true_or, or_true, false_or, or_false, Value.category, List.length_cons, List.length_nil, Option.toList_some, Option.toList_none, List.cons_append, List.nil_append, List.append_nil, Prod.mk.injEq, Nat.add_zero, Nat.zero_add, Nat.reduceAdd, Nat.reduceSub, Nat.reduceEqDiff, Nat.reduceLeDiff, Nat.reduceLT, Nat.le_refl, beq_self_eq_true, Nat.reduceBEq, ne_eq, not_true_eq_false, not_false_eq_true, Int32.reduceAdd, Int32.reduceSub, Int32.reduceMul, Int32.reduceLE, Int32.reduceLT, Int32.reduceToNatClampNeg, b01_0, b01_1, ne_2_0, ne_3_0, ne_4_0, ne_5_0, ne_6_0, ne_m1_0, ne_m2_0, b01_01, b01_n, lt_m2, lt_m1, le_m2, le_m1, Classical.not_not, j_Mem_fitting_0, b_Mem_fitting_0, j_Mem_fitting_4, b_Mem_fitting_4, j_Mem_fitting_34, b_Mem_fitting_34, j_Mem_fitting_40, b_Mem_fitting_40, an_0, an_1, cl_0, cl_1, ne_0_1, ne_0_m2, ne_1_0, ne_1_m2, ne_m2_0, ne_m2_1, vi_0, vi_1, l0, l1, l2, l3, sT0 hc, sT1 hc, sT2 hc, sT3 hc, sT4 hc, sT5 hc, sT6 hc, sT7 hc, sT8 hc, sT9 hc, pT1 hc, pT2 hc, pT3 hc, pT4 hc, pT5 hc, pT6 hc, pT7 hc, pT8 hc, pT9 hc, u1, sh1 (show um < 8 by omega), c1]
    refine c_Mem_fub hc hn6 hn hU ?_
    have ho := oI_nn (o := cfu I c n um tm ua ub fs k (I c 1) tm 0) (fun b q => by have := cfu_lt q; omega)
    simp only [cp_kk, cp_vc, cp_vs, cp_jm, cp_ent_en, cp_en_int, cp_en_ref, cp_en_ret, cp_en_long, cp_en_nil, cp_s1_at, cp_s2_at, cp_nl_int, cp_nl_ref, cp_nl_long, cp_nl_none, cp_pop_0, cp_pop_s, reduceIte, if_true, if_false, Bool.false_eq_true, Bool.true_eq_false, false_implies, implies_true, forall_const, true_implies, true_and, and_true, and_self, true_or, or_true, false_or, or_false, Value.category, List.length_cons, List.length_nil, Option.toList_some, Option.toList_none, List.cons_append, List.nil_append, List.append_nil, Prod.mk.injEq, Nat.add_zero, Nat.zero_add, Nat.reduceAdd, Nat.reduceSub, Nat.reduceEqDiff, Nat.reduceLeDiff, Nat.reduceLT, Nat.le_refl, beq_self_eq_true, Nat.reduceBEq, ne_eq, not_true_eq_false, not_false_eq_true, Int32.reduceAdd, Int32.reduceSub, Int32.reduceMul, Int32.reduceLE, Int32.reduceLT, Int32.reduceToNatClampNeg, b01_0, b01_1, ne_2_0, ne_3_0, ne_4_0, ne_5_0, ne_6_0, ne_m1_0, ne_m2_0, b01_01, b01_n, lt_m2, lt_m1, le_m2, le_m1, Classical.not_not, Bool.or_false, Bool.false_or, Bool.true_or, Bool.or_true, j_Mem_fitting_0, b_Mem_fitting_0, j_Mem_fitting_4, b_Mem_fitting_4, j_Mem_fitting_34, b_Mem_fitting_34, j_Mem_fitting_40, b_Mem_fitting_40, an_0, an_1, cl_0, cl_1, ne_0_1, ne_0_m2, ne_1_0, ne_1_m2, ne_m2_0, ne_m2_1, vi_0, vi_1, l0, l1, l2, l3, ho, sh_g (show k < 32 by omega), or_g, nI_1]
    refine ⟨fun q => ?_, fun q => ?_⟩
    · have q' : ¬ cft I c n um tm ua ub fs k = true := q
      rw [if_neg q'] at hq
      refine ih (k + 1) z _ (by omega) ?_ ?_ ?_ ?_ hq <;> simp [cp_s1_at, cp_nl_int, cp_nl_ref, l0, l1, l2]
    · have q' : cft I c n um tm ua ub fs k = true := q
      rw [if_pos q'] at hq
      refine ih (k + 1) (z ||| 2 ^ k) _ (by omega) ?_ ?_ ?_ ?_ hq <;> simp [cp_s1_at, cp_nl_int, cp_nl_ref, l0, l1]
theorem c_Mem_fitting {um tm : Nat} {ua ub fs : Nat → Nat} (hc : tk c) (hn6 : n ≤ 6) (hn : I c 4 = nI n) (hU : cU I c um tm ua ub fs) (h : Q (some (.int (nI (cfi I c n um tm ua ub fs)))) SH I J (PP t u r x)) : MW g false (d + 4) 0 0 m_Mem_fitting [.ref 42, .ref c] SH I J (PP t u r x) Q := by
  refine MW.of ok_Mem_fitting (Nat.le_of_ble_eq_true rfl) ?_
  refine cp_run 20 (fun t => t == 4) ck_Mem_fitting ?_
  simp only [cp_vc, cp_vs, cp_jm, cp_ent_en, cp_en_int, cp_en_ref, cp_en_ret, cp_en_long, cp_en_nil, cp_s1_at, cp_s2_at, cp_nl_int, cp_nl_ref, cp_nl_long, cp_nl_none, cp_pop_0, cp_pop_s, reduceIte, if_true, if_false, Bool.false_eq_true, Bool.true_eq_false, false_implies, implies_true, forall_const, true_implies, true_and, and_true, and_self, true_or, or_true, false_or, or_false, Value.category, List.length_cons, List.length_nil, Option.toList_some, Option.toList_none, List.cons_append, List.nil_append, List.append_nil, Prod.mk.injEq, Nat.add_zero, Nat.zero_add, Nat.reduceAdd, Nat.reduceSub, Nat.reduceEqDiff, Nat.reduceLeDiff, Nat.reduceLT, Nat.le_refl, beq_self_eq_true, Nat.reduceBEq, ne_eq, not_true_eq_false, not_false_eq_true, Int32.reduceAdd, Int32.reduceSub, Int32.reduceMul, Int32.reduceLE, Int32.reduceLT, Int32.reduceToNatClampNeg, b01_0, b01_1, ne_2_0, ne_3_0, ne_4_0, ne_5_0, ne_6_0, ne_m1_0, ne_m2_0, b01_01, b01_n, lt_m2, lt_m1, le_m2, le_m1, Classical.not_not, j_Mem_fitting_0, b_Mem_fitting_0, j_Mem_fitting_4, b_Mem_fitting_4, j_Mem_fitting_34, b_Mem_fitting_34, j_Mem_fitting_40, b_Mem_fitting_40, an_0, an_1, cl_0, cl_1, ne_0_1, ne_0_m2, ne_1_0, ne_1_m2, ne_m2_0, ne_m2_1, vi_0, vi_1]
  refine lp_Mem_fitting hc hn6 hn hU (2 ^ um) 0 0 _ (by omega) ?_ ?_ ?_ ?_ h <;> simp [cp_s1_at, cp_ent_en, cp_en_ref, cp_en_int, cp_nl_ref, cp_nl_int, nI_0]
end Mem1
