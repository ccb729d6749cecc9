section Part1
variable {g : cp_G} {d : Nat} {sh : cp_H} {I : cp_I} {J : cp_J} {P : cp_P} {Q : cp_QT} {t u r x n : Nat}
/-! baths: the class's -/
def fiO {α : Type} (p : Nat → Option α) : Nat → Nat → Option α
  | 0, _ => none
  | m + 1, k => match p k with
    | some a => some a
    | none => fiO p m (k + 1)
def sp_pf (S : Nat → Bool) (many : Nat) : Nat → Nat → Nat → (Nat → Nat) → Option (Nat → Nat)
  | 0, _, used, mm => if sp_al (fun k => S (mm k)) used 0 = true then some mm else none
  | f + 1, b, used, mm => fiO (fun k => sp_pf S many f (b + 1) (max used (k + 1)) (updN mm k (mm k ||| 2 ^ b))) (min (used + 1) many) 0
def prm (I : cp_I) (mm : Nat → Nat) : cp_I := fun a j => if a = 39 ∧ j < 6 then nI (mm j) else I a j
theorem prm_o {mm : Nat → Nat} {a : Nat} (h : a ≠ 39) (j : Nat) : prm I mm a j = I a j := by
  unfold prm
  rw [if_neg (fun q => h q.1)]
theorem prm_r {mm : Nat → Nat} {j : Nat} (h : j < 6) : prm I mm 39 j = nI (mm j) := by
  unfold prm
  rw [if_pos ⟨rfl, h⟩]
theorem prm_u {mm : Nat → Nat} {k v : Nat} (h : k < 6) : cp_u (prm I mm) 39 k (nI v) = prm I (updN mm k v) := by
  funext a j
  unfold cp_u prm updN
  by_cases h1 : a = 39 ∧ j = k
  · rw [if_pos h1, if_pos (by omega), if_pos h1.2]
  · rw [if_neg h1]
    by_cases h2 : a = 39 ∧ j < 6
    · rw [if_pos h2, if_pos h2, if_neg (by omega)]
    · rw [if_neg h2, if_neg h2]
theorem prm_cT {mm : Nat → Nat} (hc : cT I t n) : cT (prm I mm) t n := by
  obtain ⟨ht, hn6, hn, he⟩ := hc
  have h0 : ∀ k, k ≤ 9 → t + k ≠ 39 := by intro k hk; rcases ht with rfl | rfl <;> omega
  have e0 := prm_o (I := I) (mm := mm) (h0 0 (by omega)) 4
  rw [Nat.add_zero] at e0
  refine ⟨ht, hn6, by rw [e0]; exact hn, fun b hb => ?_⟩
  rw [prm_o (h0 3 (by omega))]
  exact he b hb
theorem prm_cs {mm : Nat → Nat} : cs (prm I mm) = cs I := by
  funext s
  unfold cs cw
  rw [prm_o (by omega), prm_o (by omega)]
theorem lp_Part_areSnug {mm : Nat → Nat} {used : Nat} (hu : used ≤ 6) (hm : ∀ k, mm k < 64) : ∀ (m k : Nat) (L : cp_Lo), k + m = used → L 0 = some (.ref 15) → L 1 = some (.ref 39) → L 2 = some (.int (nI used)) → L 3 = some (.int (nI k)) →
    Q (some (.int (if sp_al (fun k => cs I (mm k)) m k = true then 1 else 0))) SH (prm I mm) J (PP t u r x) → RW g false (d + 3) 0 0 m_Part_areSnug 0 0 2 L [] SH (prm I mm) J (PP t u r x) Q := by
  intro m
  have q0 : (0 : Nat) < 3 := by omega
  have q1 : ((0, 6) : Nat × Nat) ≠ (0, 0) := by decide
  have q2 : Int32.ofNat 6 = 6 := rfl
  induction m with
  | zero =>
    intro k L hk l0 l1 l2 l3 hq
    have c1 : nI used ≤ nI k := nI_le (by omega) (by omega)
    refine cp_run 20 (fun t => t == 2) ck_Part_areSnug ?_
    simp only [cp_vc, cp_vs, cp_jm, cp_ent_en, cp_en_int, cp_en_ref, cp_en_ret, cp_en_long, cp_en_nil, cp_s1_at, cp_s2_at, cp_nl_int, cp_nl_ref, cp_nl_long, cp_nl_none, cp_pop_0, cp_pop_s, reduceIte, if_true, if_false, Bool.false_eq_true, Bool.true_eq_false, false_implies, implies_true, forall_const, true_implies, true_and, and_true, and_self, true_or, or_true, false_or, or_false, Value.category, List.length_cons, List.length_nil, Option.toList_some, Option.toList_none, List.cons_append, List.nil_append, List.append_nil, Prod.mk.injEq, Nat.add_zero, Nat.zero_add, Nat.reduceAdd, Nat.reduceSub, Nat.reduceEqDiff, Nat.reduceLeDiff, Nat.reduceLT, Nat.le_refl, beq_self_eq_true, Nat.reduceBEq, ne_eq, not_true_eq_false, not_false_eq_true, Int32.reduceAdd, Int32.reduceSub, Int32.reduceMul, Int32.reduceLE, Int32.reduceLT, Int32.reduceToNatClampNeg, b01_0, b01_1, ne_2_0, ne_3_0, ne_4_0, ne_5_0, ne_6_0, ne_m1_0, ne_m2_0, b01_01, b01_n, lt_m2, lt_m1, le_m2, le_m1, Classical.not_not, j_Part_areSnug_0, b_Part_areSnug_0, j_Part_areSnug_2, b_Part_areSnug_2, j_Part_areSnug_25, b_Part_areSnug_25, j_Part_areSnug_31, b_Part_areSnug_31, an_0, an_1, cl_0, cl_1, ne_0_1, ne_1_0, sh_15, vi_0, vi_1, l0, l1, l2, l3, c1]
    simp only [sp_al, if_true] at hq
    exact hq
  | succ m ih =>
    intro k L hk l0 l1 l2 l3 hq
    have c1 : ¬ nI used ≤ nI k := nI_ge (by omega) (by omega)
    have c2 : ¬ (6 : Int32) ≤ nI k := nI_ge (b := 6) (by omega) (by omega)
    have er := prm_r (I := I) (mm := mm) (show k < 6 by omega)
    rw [sp_al] at hq
    refine cp_run 40 (fun t => t == 2) ck_Part_areSnug ?_
    simp only [cp_vc, cp_vs, cp_jm, cp_ent_en, cp_en_int, cp_en_ref, cp_en_ret, cp_en_long, cp_en_nil, cp_s1_at, cp_s2_at, cp_nl_int, cp_nl_ref, cp_nl_long, cp_nl_none, cp_pop_0, cp_pop_s, reduceIte, if_true, if_false, Bool.false_eq_true, Bool.true_eq_false, false_implies, implies_true, forall_const, true_implies, true_and, and_true, and_self, true_or, or_true, false_or, or_false, Value.category, List.length_cons, List.length_nil, Option.toList_some, Option.toList_none, List.cons_append, List.nil_append, List.append_nil, Prod.mk.injEq, Nat.add_zero, Nat.zero_add, Nat.reduceAdd, Nat.reduceSub, Nat.reduceEqDiff, Nat.reduceLeDiff, Nat.reduceLT, Nat.le_refl, beq_self_eq_true, Nat.reduceBEq, ne_eq, not_true_eq_false, not_false_eq_true, Int32.reduceAdd, Int32.reduceSub, Int32.reduceMul, Int32.reduceLE, Int32.reduceLT, Int32.reduceToNatClampNeg, b01_0, b01_1, ne_2_0, ne_3_0, ne_4_0, ne_5_0, ne_6_0, ne_m1_0, ne_m2_0, b01_01, b01_n, lt_m2, lt_m1, le_m2, le_m1, Classical.not_not, j_Part_areSnug_0, b_Part_areSnug_0, j_Part_areSnug_2, b_Part_areSnug_2, j_Part_areSnug_25, b_Part_areSnug_25, j_Part_areSnug_31, b_Part_areSnug_31, an_0, an_1, cl_0, cl_1, ne_0_1, ne_1_0, sh_15, vi_0, vi_1, l0, l1, l2, l3, c1, c2, q0, q2, sh_39, vin (show k < 6 by omega) (by omega), ncl (show k < 1000 by omega), er, sh_15]
    refine c_Bath_isSnug (hm k) ?_
    rw [prm_cs]
    simp only [cp_kk, cp_vc, cp_vs, cp_jm, cp_ent_en, cp_en_int, cp_en_ref, cp_en_ret, cp_en_long, cp_en_nil, cp_s1_at, cp_s2_at, cp_nl_int, cp_nl_ref, cp_nl_long, cp_nl_none, cp_pop_0, cp_pop_s, reduceIte, if_true, if_false, Bool.false_eq_true, Bool.true_eq_false, false_implies, implies_true, forall_const, true_implies, true_and, and_true, and_self, true_or, or_true, false_or, or_false, Value.category, List.length_cons, List.length_nil, Option.toList_some, Option.toList_none, List.cons_append, List.nil_append, List.append_nil, Prod.mk.injEq, Nat.add_zero, Nat.zero_add, Nat.reduceAdd, Nat.reduceSub, Nat.reduceEqDiff, Nat.reduceLeDiff, Nat.reduceLT, Nat.le_refl, beq_self_eq_true, Nat.reduceBEq, ne_eq, not_true_eq_false, not_false_eq_true, Int32.reduceAdd, Int32.reduceSub, Int32.reduceMul, Int32.reduceLE, Int32.reduceLT, Int32.reduceToNatClampNeg, b01_0, b01_1, ne_2_0, ne_3_0, ne_4_0, ne_5_0, ne_6_0, ne_m1_0, ne_m2_0, b01_01, b01_n, lt_m2, lt_m1, le_m2, le_m1, Classical.not_not, Bool.or_false, Bool.false_or, Bool.true_or, Bool.or_true, j_Part_areSnug_0, b_Part_areSnug_0, j_Part_areSnug_2, b_Part_areSnug_2, j_Part_areSnug_25, b_Part_areSnug_25, j_Part_areSnug_31, b_Part_areSnug_31, an_0, an_1, cl_0, cl_1, ne_0_1, ne_1_0, sh_15, vi_0, vi_1, l0, l1, l2, l3, nI_1]
    refine ⟨fun c => ?_, fun c => ?_⟩
    · simp only [c, Bool.true_and] at hq
      refine ih (k + 1) _ (by omega) ?_ ?_ ?_ ?_ hq <;> simp [cp_s1_at, cp_nl_int, cp_nl_ref, l0, l1, l2]
    · simp only [c, Bool.false_and, Bool.false_eq_true, if_false] at hq
      exact hq
theorem c_Part_areSnug {mm : Nat → Nat} {used : Nat} (hu : used ≤ 6) (hm : ∀ k, mm k < 64) (h : Q (some (.int (if sp_al (fun k => cs I (mm k)) used 0 = true then 1 else 0))) SH (prm I mm) J (PP t u r x)) : MW g false (d + 3) 0 0 m_Part_areSnug [.ref 15, .ref 39, .int (nI used)] SH (prm I mm) J (PP t u r x) Q := by
  refine MW.of ok_Part_areSnug (Nat.le_of_ble_eq_true rfl) ?_
  refine cp_run 20 (fun t => t == 2) ck_Part_areSnug ?_
  simp only [cp_vc, cp_vs, cp_jm, cp_ent_en, cp_en_int, cp_en_ref, cp_en_ret, cp_en_long, cp_en_nil, cp_s1_at, cp_s2_at, cp_nl_int, cp_nl_ref, cp_nl_long, cp_nl_none, cp_pop_0, cp_pop_s, reduceIte, if_true, if_false, Bool.false_eq_true, Bool.true_eq_false, false_implies, implies_true, forall_const, true_implies, true_and, and_true, and_self, true_or, or_true, false_or, or_false, Value.category, List.length_cons, List.length_nil, Option.toList_some, Option.toList_none, List.cons_append, List.nil_append, List.append_nil, Prod.mk.injEq, Nat.add_zero, Nat.zero_add, Nat.reduceAdd, Nat.reduceSub, Nat.reduceEqDiff, Nat.reduceLeDiff, Nat.reduceLT, Nat.le_refl, beq_self_eq_true, Nat.reduceBEq, ne_eq, not_true_eq_false, not_false_eq_true, Int32.reduceAdd, Int32.reduceSub, Int32.reduceMul, Int32.reduceLE, Int32.reduceLT, Int32.reduceToNatClampNeg, b01_0, b01_1, ne_2_0, ne_3_0, ne_4_0, ne_5_0, ne_6_0, ne_m1_0, ne_m2_0, b01_01, b01_n, lt_m2, lt_m1, le_m2, le_m1, Classical.not_not, j_Part_areSnug_0, b_Part_areSnug_0, j_Part_areSnug_2, b_Part_areSnug_2, j_Part_areSnug_25, b_Part_areSnug_25, j_Part_areSnug_31, b_Part_areSnug_31, an_0, an_1, cl_0, cl_1, ne_0_1, ne_1_0, sh_15, vi_0, vi_1]
  refine lp_Part_areSnug hu hm used 0 _ (by omega) ?_ ?_ ?_ ?_ h <;> simp [cp_s1_at, cp_ent_en, cp_en_ref, cp_en_int, cp_nl_ref, cp_nl_int, nI_0]
theorem or_andn {m b : Nat} (hm : m < 2 ^ b) (hb : b < 6) : (m ||| 2 ^ b) &&& (63 - 2 ^ b) = m := by
  have key : ∀ b : Nat, b < 6 → ∀ m : Nat, m < 2 ^ b → (m ||| 2 ^ b) &&& (63 - 2 ^ b) = m := by decide +kernel
  exact key b hb m hm
theorem updN_same {mm : Nat → Nat} {k v : Nat} : updN (updN mm k v) k (mm k) = mm := by
  funext j
  unfold updN
  by_cases h : j = k
  · simp [h]
  · simp [h]
set_option maxRecDepth 20000 in
theorem c_Part_putFrom {many : Nat} (hc : cT I t n) (hmany : many ≤ 6) : ∀ (f D b used : Nat) (mm : Nat → Nat) (Q : cp_QT), D = d + f → b + f = n → used ≤ b → (∀ k, mm k < 2 ^ b) →
    (∀ mm', sp_pf (cs I) many f b used mm = some mm' → Q (some (.int 1)) SH (prm I mm') J (PP t u r x)) → (sp_pf (cs I) many f b used mm = none → Q (some (.int 0)) SH (prm I mm) J (PP t u r x)) →
    MW g false (D + 4) 0 0 m_Part_putFrom [.ref 15, .ref 39, .int (nI b), .int (nI used), .int (nI many)] SH (prm I mm) J (PP t u r x) Q := by
  obtain ⟨ht, hn6, hn, he⟩ := id hc
  have hnM : ∀ mm, prm I mm t 4 = nI n := fun mm => (prm_cT (mm := mm) hc).2.2.1
  intro f
  induction f with
  | zero =>
    intro D b used mm Q hD hb hu hm h1 h0
    have c1 : ¬ nI b < nI n := nI_nlt (by omega) (by omega)
    have e := hnM mm
    rw [sp_pf] at h1 h0
    refine MW.of ok_Part_putFrom (Nat.le_of_ble_eq_true rfl) ?_
    refine cp_run 40 (fun _ => false) ck_Part_putFrom ?_
    simp only [cp_vc, cp_vs, cp_jm, cp_ent_en, cp_en_int, cp_en_ref, cp_en_ret, cp_en_long, cp_en_nil, cp_s1_at, cp_s2_at, cp_nl_int, cp_nl_ref, cp_nl_long, cp_nl_none, cp_pop_0, cp_pop_s, reduceIte, if_true, if_false, Bool.false_eq_true, Bool.true_eq_false, false_implies, implies_true, forall_const, true_implies, true_and, and_true, and_self, true_or, or_true, false_or, or_false, Value.category, List.length_cons, List.length_nil, Option.toList_some, Option.toList_none, List.cons_append, List.nil_append, List.append_nil, Prod.mk.injEq, Nat.add_zero, Nat.zero_add, Nat.reduceAdd, Nat.reduceSub, Nat.reduceEqDiff, Nat.reduceLeDiff, Nat.reduceLT, Nat.le_refl, beq_self_eq_true, Nat.reduceBEq, ne_eq, not_true_eq_false, not_false_eq_true, Int32.reduceAdd, Int32.reduceSub, Int32.reduceMul, Int32.reduceLE, Int32.reduceLT, Int32.reduceToNatClampNeg, b01_0, b01_1, ne_2_0, ne_3_0, ne_4_0, ne_5_0, ne_6_0, ne_m1_0, ne_m2_0, b01_01, b01_n, lt_m2, lt_m1, le_m2, le_m1, Classical.not_not, j_Part_putFrom_0, b_Part_putFrom_0, j_Part_putFrom_18, b_Part_putFrom_18, j_Part_putFrom_21, b_Part_putFrom_21, j_Part_putFrom_74, b_Part_putFrom_74, j_Part_putFrom_92, b_Part_putFrom_92, an_0, an_1, cl_0, cl_1, ne_0_1, ne_0_m1, ne_1_0, ne_1_m1, ne_m1_0, ne_m1_1, pp_15_0, sh_15, vi_0, vi_1, sh_15, pp_15_0, sT0 ht, sT1 ht, sT2 ht, sT3 ht, sT4 ht, sT5 ht, sT6 ht, sT7 ht, sT8 ht, sT9 ht, pT1 ht, pT2 ht, pT3 ht, pT4 ht, pT5 ht, pT6 ht, pT7 ht, pT8 ht, pT9 ht, e, c1]
    refine c_Part_areSnug (by omega) (fun k => Nat.lt_of_lt_of_le (hm k) (Nat.pow_le_pow_right (by omega) (show b ≤ 6 by omega))) ?_
    simp only [cp_kk, cp_vc, cp_vs, cp_jm, cp_ent_en, cp_en_int, cp_en_ref, cp_en_ret, cp_en_long, cp_en_nil, cp_s1_at, cp_s2_at, cp_nl_int, cp_nl_ref, cp_nl_long, cp_nl_none, cp_pop_0, cp_pop_s, reduceIte, if_true, if_false, Bool.false_eq_true, Bool.true_eq_false, false_implies, implies_true, forall_const, true_implies, true_and, and_true, and_self, true_or, or_true, false_or, or_false, Value.category, List.length_cons, List.length_nil, Option.toList_some, Option.toList_none, List.cons_append, List.nil_append, List.append_nil, Prod.mk.injEq, Nat.add_zero, Nat.zero_add, Nat.reduceAdd, Nat.reduceSub, Nat.reduceEqDiff, Nat.reduceLeDiff, Nat.reduceLT, Nat.le_refl, beq_self_eq_true, Nat.reduceBEq, ne_eq, not_true_eq_false, not_false_eq_true, Int32.reduceAdd, Int32.reduceSub, Int32.reduceMul, Int32.reduceLE, Int32.reduceLT, Int32.reduceToNatClampNeg, b01_0, b01_1, ne_2_0, ne_3_0, ne_4_0, ne_5_0, ne_6_0, ne_m1_0, ne_m2_0, b01_01, b01_n, lt_m2, lt_m1, le_m2, le_m1, Classical.not_not, Bool.or_false, Bool.false_or, Bool.true_or, Bool.or_true, j_Part_putFrom_0, b_Part_putFrom_0, j_Part_putFrom_18, b_Part_putFrom_18, j_Part_putFrom_21, b_Part_putFrom_21, j_Part_putFrom_74, b_Part_putFrom_74, j_Part_putFrom_92, b_Part_putFrom_92, an_0, an_1, cl_0, cl_1, ne_0_1, ne_0_m1, ne_1_0, ne_1_m1, ne_m1_0, ne_m1_1, pp_15_0, sh_15, vi_0, vi_1]
    by_cases c : sp_al (fun k => cs I (mm k)) used 0 = true
    · rw [if_pos c] at h1 ⊢
      exact h1 mm rfl
    · rw [if_neg c] at h0 ⊢
      exact h0 rfl
  | succ f ih =>
    intro D b used mm Q hD hb hu hm h1 h0
    obtain ⟨D, rfl⟩ : ∃ D', D = D' + 1 := ⟨d + f, by omega⟩
    have c1 : nI b < nI n := nI_lt (by omega) (by omega)
    have e := hnM mm
    have hb6 : b < 6 := by omega
    have hpb := pow_lt64 hb6
    rw [sp_pf] at h1 h0
    refine MW.of ok_Part_putFrom (Nat.le_of_ble_eq_true rfl) ?_
    refine cp_run 40 (fun t => t == 21) ck_Part_putFrom ?_
    simp only [cp_vc, cp_vs, cp_jm, cp_ent_en, cp_en_int, cp_en_ref, cp_en_ret, cp_en_long, cp_en_nil, cp_s1_at, cp_s2_at, cp_nl_int, cp_nl_ref, cp_nl_long, cp_nl_none, cp_pop_0, cp_pop_s, reduceIte, if_true, if_false, Bool.false_eq_true, Bool.true_eq_false, false_implies, implies_true, forall_const, true_implies, true_and, and_true, and_self, true_or, or_true, false_or, or_false, Value.category, List.length_cons, List.length_nil, Option.toList_some, Option.toList_none, List.cons_append, List.nil_append, List.append_nil, Prod.mk.injEq, Nat.add_zero, Nat.zero_add, Nat.reduceAdd, Nat.reduceSub, Nat.reduceEqDiff, Nat.reduceLeDiff, Nat.reduceLT, Nat.le_refl, beq_self_eq_true, Nat.reduceBEq, ne_eq, not_true_eq_false, not_false_eq_true, Int32.reduceAdd, Int32.reduceSub, Int32.reduceMul, Int32.reduceLE, Int32.reduceLT, Int32.reduceToNatClampNeg, b01_0, b01_1, ne_2_0, ne_3_0, ne_4_0, ne_5_0, ne_6_0, ne_m1_0, ne_m2_0, b01_01, b01_n, lt_m2, lt_m1, le_m2, le_m1, Classical.not_not, j_Part_putFrom_0, b_Part_putFrom_0, j_Part_putFrom_18, b_Part_putFrom_18, j_Part_putFrom_21, b_Part_putFrom_21, j_Part_putFrom_74, b_Part_putFrom_74, j_Part_putFrom_92, b_Part_putFrom_92, an_0, an_1, cl_0, cl_1, ne_0_1, ne_0_m1, ne_1_0, ne_1_m1, ne_m1_0, ne_m1_1, pp_15_0, sh_15, vi_0, vi_1, sh_15, pp_15_0, sT0 ht, sT1 ht, sT2 ht, sT3 ht, sT4 ht, sT5 ht, sT6 ht, sT7 ht, sT8 ht, sT9 ht, pT1 ht, pT2 ht, pT3 ht, pT4 ht, pT5 ht, pT6 ht, pT7 ht, pT8 ht, pT9 ht, e, c1]
    have inner : ∀ (m k : Nat) (L : cp_Lo), k + m = min (used + 1) many → L 0 = some (.ref 15) → L 1 = some (.ref 39) → L 2 = some (.int (nI b)) → L 3 = some (.int (nI used)) → L 4 = some (.int (nI many)) → L 5 = some (.int (nI k)) →
        (∀ mm', fiO (fun k => sp_pf (cs I) many f (b + 1) (max used (k + 1)) (updN mm k (mm k ||| 2 ^ b))) m k = some mm' → Q (some (.int 1)) SH (prm I mm') J (PP t u r x)) → (fiO (fun k => sp_pf (cs I) many f (b + 1) (max used (k + 1)) (updN mm k (mm k ||| 2 ^ b))) m k = none → Q (some (.int 0)) SH (prm I mm) J (PP t u r x)) →
        RW g false (D + 1 + 4) 0 0 m_Part_putFrom 0 0 21 L [] SH (prm I mm) J (PP t u r x) Q := by
      intro m
      induction m with
      | zero =>
        intro k L hk l0 l1 l2 l3 l4 l5 g1 g0
        have hq := g0 rfl
        by_cases c : used < k
        · have c2 : nI used < nI k := nI_lt c (by omega)
          refine cp_run 20 (fun t => t == 21) ck_Part_putFrom ?_
          simp only [cp_vc, cp_vs, cp_jm, cp_ent_en, cp_en_int, cp_en_ref, cp_en_ret, cp_en_long, cp_en_nil, cp_s1_at, cp_s2_at, cp_nl_int, cp_nl_ref, cp_nl_long, cp_nl_none, cp_pop_0, cp_pop_s, reduceIte, if_true, if_false, Bool.false_eq_true, Bool.true_eq_false, false_implies, implies_true, forall_const, true_implies, true_and, and_true, and_self, true_or, or_true, false_or, or_false, Value.category, List.length_cons, List.length_nil, Option.toList_some, Option.toList_none, List.cons_append, List.nil_append, List.append_nil, Prod.mk.injEq, Nat.add_zero, Nat.zero_add, Nat.reduceAdd, Nat.reduceSub, Nat.reduceEqDiff, Nat.reduceLeDiff, Nat.reduceLT, Nat.le_refl, beq_self_eq_true, Nat.reduceBEq, ne_eq, not_true_eq_false, not_false_eq_true, Int32.reduceAdd, Int32.reduceSub, Int32.reduceMul, Int32.reduceLE, Int32.reduceLT, Int32.reduceToNatClampNeg, b01_0, b01_1, ne_2_0, ne_3_0, ne_4_0, ne_5_0, ne_6_0, ne_m1_0, ne_m2_0, b01_01, b01_n, lt_m2, lt_m1, le_m2, le_m1, Classical.not_not, j_Part_putFrom_0, b_Part_putFrom_0, j_Part_putFrom_18, b_Part_putFrom_18, j_Part_putFrom_21, b_Part_putFrom_21, j_Part_putFrom_74, b_Part_putFrom_74, j_Part_putFrom_92, b_Part_putFrom_92, an_0, an_1, cl_0, cl_1, ne_0_1, ne_0_m1, ne_1_0, ne_1_m1, ne_m1_0, ne_m1_1, pp_15_0, sh_15, vi_0, vi_1, l0, l1, l2, l3, l4, l5, c2]
          exact hq
        · have c2 : ¬ nI used < nI k := nI_nlt (by omega) (by omega)
          have c3 : nI many ≤ nI k := nI_le (by omega) (by omega)
          refine cp_run 20 (fun t => t == 21) ck_Part_putFrom ?_
          simp only [cp_vc, cp_vs, cp_jm, cp_ent_en, cp_en_int, cp_en_ref, cp_en_ret, cp_en_long, cp_en_nil, cp_s1_at, cp_s2_at, cp_nl_int, cp_nl_ref, cp_nl_long, cp_nl_none, cp_pop_0, cp_pop_s, reduceIte, if_true, if_false, Bool.false_eq_true, Bool.true_eq_false, false_implies, implies_true, forall_const, true_implies, true_and, and_true, and_self, true_or, or_true, false_or, or_false, Value.category, List.length_cons, List.length_nil, Option.toList_some, Option.toList_none, List.cons_append, List.nil_append, List.append_nil, Prod.mk.injEq, Nat.add_zero, Nat.zero_add, Nat.reduceAdd, Nat.reduceSub, Nat.reduceEqDiff, Nat.reduceLeDiff, Nat.reduceLT, Nat.le_refl, beq_self_eq_true, Nat.reduceBEq, ne_eq, not_true_eq_false, not_false_eq_true, Int32.reduceAdd, Int32.reduceSub, Int32.reduceMul, Int32.reduceLE, Int32.reduceLT, Int32.reduceToNatClampNeg, b01_0, b01_1, ne_2_0, ne_3_0, ne_4_0, ne_5_0, ne_6_0, ne_m1_0, ne_m2_0, b01_01, b01_n, lt_m2, lt_m1, le_m2, le_m1, Classical.not_not, j_Part_putFrom_0, b_Part_putFrom_0, j_Part_putFrom_18, b_Part_putFrom_18, j_Part_putFrom_21, b_Part_putFrom_21, j_Part_putFrom_74, b_Part_putFrom_74, j_Part_putFrom_92, b_Part_putFrom_92, an_0, an_1, cl_0, cl_1, ne_0_1, ne_0_m1, ne_1_0, ne_1_m1, ne_m1_0, ne_m1_1, pp_15_0, sh_15, vi_0, vi_1, l0, l1, l2, l3, l4, l5, c2, c3]
          exact hq
      | succ m ihm =>
        intro k L hk l0 l1 l2 l3 l4 l5 g1 g0
        have c2 : ¬ nI used < nI k := nI_nlt (by omega) (by omega)
        have c3 : ¬ nI many ≤ nI k := nI_ge (by omega) (by omega)
        have hk6 : k < 6 := by omega
        have c4 : ¬ (6 : Int32) ≤ nI k := nI_ge (b := 6) (by omega) (by omega)
        have q0 : (0 : Nat) < 3 := by omega
        have q2 : Int32.ofNat 6 = 6 := rfl
        have er := prm_r (I := I) (mm := mm) hk6
        have hmk : mm k < 64 := Nat.lt_trans (hm k) hpb
        have emax : (if nI used < nI (k + 1) then nI (k + 1) else nI used) = nI (max used (k + 1)) := by
          simp only [ltN (show used < 1000 by omega) (show k + 1 < 1000 by omega)]
          split
          · rw [Nat.max_eq_right (by omega)]
          · rw [Nat.max_eq_left (by omega)]
        rw [fiO] at g1 g0
        refine cp_run 60 (fun t => t == 21) ck_Part_putFrom ?_
        rw [j_Part_putFrom_21, b_Part_putFrom_21]
        simp only [cp_vc, cp_vs, cp_jm, cp_ent_en, cp_en_int, cp_en_ref, cp_en_ret, cp_en_long, cp_en_nil, cp_s1_at, cp_s2_at, cp_nl_int, cp_nl_ref, cp_nl_long, cp_nl_none, cp_pop_0, cp_pop_s, reduceIte, if_true, if_false, Bool.false_eq_true, Bool.true_eq_false, false_implies, implies_true, forall_const, true_implies, true_and, and_true, and_self, true_or, or_true, false_or, or_false, Value.category, List.length_cons, List.length_nil, Option.toList_some, Option.toList_none, List.cons_append, List.nil_append, List.append_nil, Prod.mk.injEq, Nat.add_zero, Nat.zero_add, Nat.reduceAdd, Nat.reduceSub, Nat.reduceEqDiff, Nat.reduceLeDiff, Nat.reduceLT, Nat.le_refl, beq_self_eq_true, Nat.reduceBEq, ne_eq, not_true_eq_false, not_false_eq_true, Int32.reduceAdd, Int32.reduceSub, Int32.reduceMul, Int32.reduceLE, Int32.reduceLT, Int32.reduceToNatClampNeg, b01_0, b01_1, ne_2_0, ne_3_0, ne_4_0, ne_5_0, ne_6_0, ne_m1_0, ne_m2_0, b01_01, b01_n, lt_m2, lt_m1, le_m2, le_m1, Classical.not_not, j_Part_putFrom_0, b_Part_putFrom_0, j_Part_putFrom_18, b_Part_putFrom_18, j_Part_putFrom_74, b_Part_putFrom_74, j_Part_putFrom_92, b_Part_putFrom_92, an_0, an_1, cl_0, cl_1, ne_0_1, ne_0_m1, ne_1_0, ne_1_m1, ne_m1_0, ne_m1_1, pp_15_0, sh_15, vi_0, vi_1, l0, l1, l2, l3, l4, l5, c2, c3, c4, q0, q2, sh_39, vin hk6 (by omega), ncl (show k < 1000 by omega), er, sh1 (show b < 8 by omega), or_nI hmk hpb, prm_u hk6, nI_1, emax]
        have hps : 2 ^ (b + 1) = 2 ^ b + 2 ^ b := by rw [Nat.pow_succ]; omega
        refine ih D (b + 1) (max used (k + 1)) (updN mm k (mm k ||| 2 ^ b)) _ (by omega) (by omega) (by omega) (fun j => ?_) ?_ ?_
        · unfold updN
          by_cases ej : j = k
          · rw [if_pos ej]
            exact Nat.or_lt_two_pow (show mm k < 2 ^ (b + 1) by have := hm k; omega) (show 2 ^ b < 2 ^ (b + 1) by have := Nat.two_pow_pos b; omega)
          · rw [if_neg ej]
            have := hm j
            omega
        · intro mm' hmm
          simp only [hmm] at g1
          simp only [cp_kk, cp_vc, cp_vs, cp_jm, cp_ent_en, cp_en_int, cp_en_ref, cp_en_ret, cp_en_long, cp_en_nil, cp_s1_at, cp_s2_at, cp_nl_int, cp_nl_ref, cp_nl_long, cp_nl_none, cp_pop_0, cp_pop_s, reduceIte, if_true, if_false, Bool.false_eq_true, Bool.true_eq_false, false_implies, implies_true, forall_const, true_implies, true_and, and_true, and_self, true_or, or_true, false_or, or_false, Value.category, List.length_cons, List.length_nil, Option.toList_some, Option.toList_none, List.cons_append, List.nil_append, List.append_nil, Prod.mk.injEq, Nat.add_zero, Nat.zero_add, Nat.reduceAdd, Nat.reduceSub, Nat.reduceEqDiff, Nat.reduceLeDiff, Nat.reduceLT, Nat.le_refl, beq_self_eq_true, Nat.reduceBEq, ne_eq, not_true_eq_false, not_false_eq_true, Int32.reduceAdd, Int32.reduceSub, Int32.reduceMul, Int32.reduceLE, Int32.reduceLT, Int32.reduceToNatClampNeg, b01_0, b01_1, ne_2_0, ne_3_0, ne_4_0, ne_5_0, ne_6_0, ne_m1_0, ne_m2_0, b01_01, b01_n, lt_m2, lt_m1, le_m2, le_m1, Classical.not_not, Bool.or_false, Bool.false_or, Bool.true_or, Bool.or_true, j_Part_putFrom_0, b_Part_putFrom_0, j_Part_putFrom_18, b_Part_putFrom_18, j_Part_putFrom_74, b_Part_putFrom_74, j_Part_putFrom_92, b_Part_putFrom_92, an_0, an_1, cl_0, cl_1, ne_0_1, ne_0_m1, ne_1_0, ne_1_m1, ne_m1_0, ne_m1_1, pp_15_0, sh_15, vi_0, vi_1]
          exact g1 mm' rfl
        · intro hnone
          simp only [hnone] at g1 g0
          have er2 := prm_r (I := I) (mm := updN mm k (mm k ||| 2 ^ b)) hk6
          have eu : updN mm k (mm k ||| 2 ^ b) k = mm k ||| 2 ^ b := by simp [updN]
          rw [eu] at er2
          have eo : (mm k ||| 2 ^ b) &&& (63 - 2 ^ b) = mm k := or_andn (hm k) hb6
          simp only [cp_kk, cp_vc, cp_vs, cp_jm, cp_ent_en, cp_en_int, cp_en_ref, cp_en_ret, cp_en_long, cp_en_nil, cp_s1_at, cp_s2_at, cp_nl_int, cp_nl_ref, cp_nl_long, cp_nl_none, cp_pop_0, cp_pop_s, reduceIte, if_true, if_false, Bool.false_eq_true, Bool.true_eq_false, false_implies, implies_true, forall_const, true_implies, true_and, and_true, and_self, true_or, or_true, false_or, or_false, Value.category, List.length_cons, List.length_nil, Option.toList_some, Option.toList_none, List.cons_append, List.nil_append, List.append_nil, Prod.mk.injEq, Nat.add_zero, Nat.zero_add, Nat.reduceAdd, Nat.reduceSub, Nat.reduceEqDiff, Nat.reduceLeDiff, Nat.reduceLT, Nat.le_refl, beq_self_eq_true, Nat.reduceBEq, ne_eq, not_true_eq_false, not_false_eq_true, Int32.reduceAdd, Int32.reduceSub, Int32.reduceMul, Int32.reduceLE, Int32.reduceLT, Int32.reduceToNatClampNeg, b01_0, b01_1, ne_2_0, ne_3_0, ne_4_0, ne_5_0, ne_6_0, ne_m1_0, ne_m2_0, b01_01, b01_n, lt_m2, lt_m1, le_m2, le_m1, Classical.not_not, Bool.or_false, Bool.false_or, Bool.true_or, Bool.or_true, j_Part_putFrom_0, b_Part_putFrom_0, j_Part_putFrom_18, b_Part_putFrom_18, j_Part_putFrom_74, b_Part_putFrom_74, j_Part_putFrom_92, b_Part_putFrom_92, an_0, an_1, cl_0, cl_1, ne_0_1, ne_0_m1, ne_1_0, ne_1_m1, ne_m1_0, ne_m1_1, pp_15_0, sh_15, vi_0, vi_1, l0, l1, l2, l3, l4, l5, sh_39, vin hk6 (by omega), ncl (show k < 1000 by omega), er2, sh1 (show b < 8 by omega), andn2_nI (or_lt64 hmk hpb) hpb, eo, prm_u hk6, updN_same, nI_1]
          refine ihm (k + 1) _ (by omega) ?_ ?_ ?_ ?_ ?_ ?_ g1 g0 <;> simp [cp_s1_at, cp_nl_int, cp_nl_ref, l0, l1, l2, l3, l4]
    refine inner (min (used + 1) many) 0 _ (by omega) ?_ ?_ ?_ ?_ ?_ ?_ h1 h0 <;> simp [cp_s1_at, cp_ent_en, cp_en_ref, cp_en_int, cp_nl_ref, cp_nl_int, nI_0]
/-- the fewest baths, and who is in which -/
def cfb (I : cp_I) (n : Nat) : Nat → Nat → Option (Nat × (Nat → Nat)) := fiO (fun many => (sp_pf (cs I) many n 0 0 (fun _ => 0)).map (fun mm => (many, mm)))
theorem lp_Part_15 {many : Nat} (h : ∀ (L : cp_Lo), L 0 = some (.ref 38) → L 1 = some (.ref 15) → L 2 = some (.int (nI many)) → RW g false (d + 5) 0 0 m_Part_fewestBaths 0 0 34 L [] SH (prm I (fun _ => 0)) J (PP t u r x) Q) :
    ∀ (m k : Nat) (M : cp_I) (L : cp_Lo), k + m = 6 → (∀ a j, ¬ (a = 39 ∧ j < 6) → M a j = I a j) → (∀ j, j < k → M 39 j = 0) → L 0 = some (.ref 38) → L 1 = some (.ref 15) → L 2 = some (.int (nI many)) → L 3 = some (.int (nI k)) → RW g false (d + 5) 0 0 m_Part_fewestBaths 0 0 15 L [] SH M J (PP t u r x) Q := by
  intro m
  induction m with
  | zero =>
    intro k M L hk e1 e2 l0 l1 l2 l3
    have c1 : (6 : Int32) ≤ nI k := nI_le (a := 6) (by omega) (by omega)
    have eM : M = prm I (fun _ => 0) := by
      funext a j
      unfold prm
      by_cases h : a = 39 ∧ j < 6
      · rw [if_pos h, h.1, e2 j (by omega)]
        rfl
      · rw [if_neg h]
        exact e1 a j h
    subst eM
    refine cp_run 20 (fun t => t == 15 || t == 34) ck_Part_fewestBaths ?_
    simp only [cp_vc, cp_vs, cp_jm, cp_ent_en, cp_en_int, cp_en_ref, cp_en_ret, cp_en_long, cp_en_nil, cp_s1_at, cp_s2_at, cp_nl_int, cp_nl_ref, cp_nl_long, cp_nl_none, cp_pop_0, cp_pop_s, reduceIte, if_true, if_false, Bool.false_eq_true, Bool.true_eq_false, false_implies, implies_true, forall_const, true_implies, true_and, and_true, and_self, true_or, or_true, false_or, or_false, Value.category, List.length_cons, List.length_nil, Option.toList_some, Option.toList_none, List.cons_append, List.nil_append, List.append_nil, Prod.mk.injEq, Nat.add_zero, Nat.zero_add, Nat.reduceAdd, Nat.reduceSub, Nat.reduceEqDiff, Nat.reduceLeDiff, Nat.reduceLT, Nat.le_refl, beq_self_eq_true, Nat.reduceBEq, ne_eq, not_true_eq_false, not_false_eq_true, Int32.reduceAdd, Int32.reduceSub, Int32.reduceMul, Int32.reduceLE, Int32.reduceLT, Int32.reduceToNatClampNeg, b01_0, b01_1, ne_2_0, ne_3_0, ne_4_0, ne_5_0, ne_6_0, ne_m1_0, ne_m2_0, b01_01, b01_n, lt_m2, lt_m1, le_m2, le_m1, Classical.not_not, Bool.or_false, Bool.false_or, Bool.true_or, Bool.or_true, j_Part_fewestBaths_0, b_Part_fewestBaths_0, j_Part_fewestBaths_2, b_Part_fewestBaths_2, j_Part_fewestBaths_15, b_Part_fewestBaths_15, j_Part_fewestBaths_34, b_Part_fewestBaths_34, j_Part_fewestBaths_50, b_Part_fewestBaths_50, j_Part_fewestBaths_56, b_Part_fewestBaths_56, an_0, an_1, an_6, cl_0, cl_1, cl_6, ne_0_1, ne_0_6, ne_0_m2, ne_1_0, ne_1_6, ne_1_m2, ne_6_0, ne_6_1, ne_6_m2, ne_m2_0, ne_m2_1, ne_m2_6, pp_15_0, pp_38_0, sh_15, sh_38, sh_39, vi_0, vi_1, vi_6, l0, l1, l2, l3, c1]
    exact h L l0 l1 l2
  | succ m ih =>
    intro k M L hk e1 e2 l0 l1 l2 l3
    have c1 : ¬ (6 : Int32) ≤ nI k := nI_ge (b := 6) (by omega) (by omega)
    refine cp_run 20 (fun t => t == 15 || t == 34) ck_Part_fewestBaths ?_
    simp only [cp_vc, cp_vs, cp_jm, cp_ent_en, cp_en_int, cp_en_ref, cp_en_ret, cp_en_long, cp_en_nil, cp_s1_at, cp_s2_at, cp_nl_int, cp_nl_ref, cp_nl_long, cp_nl_none, cp_pop_0, cp_pop_s, reduceIte, if_true, if_false, Bool.false_eq_true, Bool.true_eq_false, false_implies, implies_true, forall_const, true_implies, true_and, and_true, and_self, true_or, or_true, false_or, or_false, Value.category, List.length_cons, List.length_nil, Option.toList_some, Option.toList_none, List.cons_append, List.nil_append, List.append_nil, Prod.mk.injEq, Nat.add_zero, Nat.zero_add, Nat.reduceAdd, Nat.reduceSub, Nat.reduceEqDiff, Nat.reduceLeDiff, Nat.reduceLT, Nat.le_refl, beq_self_eq_true, Nat.reduceBEq, ne_eq, not_true_eq_false, not_false_eq_true, Int32.reduceAdd, Int32.reduceSub, Int32.reduceMul, Int32.reduceLE, Int32.reduceLT, Int32.reduceToNatClampNeg, b01_0, b01_1, ne_2_0, ne_3_0, ne_4_0, ne_5_0, ne_6_0, ne_m1_0, ne_m2_0, b01_01, b01_n, lt_m2, lt_m1, le_m2, le_m1, Classical.not_not, Bool.or_false, Bool.false_or, Bool.true_or, Bool.or_true, j_Part_fewestBaths_0, b_Part_fewestBaths_0, j_Part_fewestBaths_2, b_Part_fewestBaths_2, j_Part_fewestBaths_15, b_Part_fewestBaths_15, j_Part_fewestBaths_34, b_Part_fewestBaths_34, j_Part_fewestBaths_50, b_Part_fewestBaths_50, j_Part_fewestBaths_56, b_Part_fewestBaths_56, an_0, an_1, an_6, cl_0, cl_1, cl_6, ne_0_1, ne_0_6, ne_0_m2, ne_1_0, ne_1_6, ne_1_m2, ne_6_0, ne_6_1, ne_6_m2, ne_m2_0, ne_m2_1, ne_m2_6, pp_15_0, pp_38_0, sh_15, sh_38, sh_39, vi_0, vi_1, vi_6, l0, l1, l2, l3, c1, vin (show k < 6 by omega) (by omega), ncl (show k < 1000 by omega), nI_1]
    refine ih (k + 1) _ _ (by omega) ?_ ?_ ?_ ?_ ?_ ?_
    · intro a j ha
      rw [cp_u_at, if_neg (by omega)]
      exact e1 a j ha
    · intro j hj
      by_cases e : j = k
      · simp [cp_u_at, e]
      · rw [cp_u_at, if_neg (by omega)]
        exact e2 j (by omega)
    · simp [cp_s1_at, cp_nl_int, cp_nl_ref, l0]
    · simp [cp_s1_at, cp_nl_int, cp_nl_ref, l1]
    · simp [cp_s1_at, cp_nl_int, cp_nl_ref, l2]
    · simp [cp_s1_at, cp_nl_int, cp_nl_ref]
theorem lp_Part_fewest (hc : cT I t n) : ∀ (m many : Nat) (M : cp_I) (L : cp_Lo), many + m = n + 1 → (∀ a j, ¬ (a = 39 ∧ j < 6) → M a j = I a j) → L 0 = some (.ref 38) → L 1 = some (.ref 15) → L 2 = some (.int (nI many)) →
    (∀ q, cfb I n m many = some q → Q (some (.int (nI q.1))) SH (prm I q.2) J (PP t u r x)) → (cfb I n m many = none → ∀ M', (∀ a j, ¬ (a = 39 ∧ j < 6) → M' a j = I a j) → Q (some (.int (-2))) SH M' J (PP t u r x)) → RW g false (d + n + 5) 0 0 m_Part_fewestBaths 0 0 2 L [] SH M J (PP t u r x) Q := by
  obtain ⟨ht, hn6, hn, he⟩ := id hc
  intro m
  induction m with
  | zero =>
    intro many M L hm e1 l0 l1 l2 h1 h0
    have c1 : nI n < nI many := nI_lt (by omega) (by omega)
    have e : M t 4 = nI n := by rw [e1 t 4 (by rcases ht with rfl | rfl <;> omega)]; exact hn
    refine cp_run 20 (fun t => t == 2) ck_Part_fewestBaths ?_
    simp only [cp_vc, cp_vs, cp_jm, cp_ent_en, cp_en_int, cp_en_ref, cp_en_ret, cp_en_long, cp_en_nil, cp_s1_at, cp_s2_at, cp_nl_int, cp_nl_ref, cp_nl_long, cp_nl_none, cp_pop_0, cp_pop_s, reduceIte, if_true, if_false, Bool.false_eq_true, Bool.true_eq_false, false_implies, implies_true, forall_const, true_implies, true_and, and_true, and_self, true_or, or_true, false_or, or_false, Value.category, List.length_cons, List.length_nil, Option.toList_some, Option.toList_none, List.cons_append, List.nil_append, List.append_nil, Prod.mk.injEq, Nat.add_zero, Nat.zero_add, Nat.reduceAdd, Nat.reduceSub, Nat.reduceEqDiff, Nat.reduceLeDiff, Nat.reduceLT, Nat.le_refl, beq_self_eq_true, Nat.reduceBEq, ne_eq, not_true_eq_false, not_false_eq_true, Int32.reduceAdd, Int32.reduceSub, Int32.reduceMul, Int32.reduceLE, Int32.reduceLT, Int32.reduceToNatClampNeg, b01_0, b01_1, ne_2_0, ne_3_0, ne_4_0, ne_5_0, ne_6_0, ne_m1_0, ne_m2_0, b01_01, b01_n, lt_m2, lt_m1, le_m2, le_m1, Classical.not_not, j_Part_fewestBaths_0, b_Part_fewestBaths_0, j_Part_fewestBaths_2, b_Part_fewestBaths_2, j_Part_fewestBaths_15, b_Part_fewestBaths_15, j_Part_fewestBaths_34, b_Part_fewestBaths_34, j_Part_fewestBaths_50, b_Part_fewestBaths_50, j_Part_fewestBaths_56, b_Part_fewestBaths_56, an_0, an_1, an_6, cl_0, cl_1, cl_6, ne_0_1, ne_0_6, ne_0_m2, ne_1_0, ne_1_6, ne_1_m2, ne_6_0, ne_6_1, ne_6_m2, ne_m2_0, ne_m2_1, ne_m2_6, pp_15_0, pp_38_0, sh_15, sh_38, sh_39, vi_0, vi_1, vi_6, l0, l1, l2, sh_15, pp_15_0, sT0 ht, sT1 ht, sT2 ht, sT3 ht, sT4 ht, sT5 ht, sT6 ht, sT7 ht, sT8 ht, sT9 ht, pT1 ht, pT2 ht, pT3 ht, pT4 ht, pT5 ht, pT6 ht, pT7 ht, pT8 ht, pT9 ht, e, c1]
    exact h0 rfl M e1
  | succ m ih =>
    intro many M L hm e1 l0 l1 l2 h1 h0
    have c1 : ¬ nI n < nI many := nI_nlt (by omega) (by omega)
    have e : M t 4 = nI n := by rw [e1 t 4 (by rcases ht with rfl | rfl <;> omega)]; exact hn
    unfold cfb at h1 h0
    rw [fiO] at h1 h0
    refine cp_run 20 (fun t => t == 2 || t == 15) ck_Part_fewestBaths ?_
    simp only [cp_vc, cp_vs, cp_jm, cp_ent_en, cp_en_int, cp_en_ref, cp_en_ret, cp_en_long, cp_en_nil, cp_s1_at, cp_s2_at, cp_nl_int, cp_nl_ref, cp_nl_long, cp_nl_none, cp_pop_0, cp_pop_s, reduceIte, if_true, if_false, Bool.false_eq_true, Bool.true_eq_false, false_implies, implies_true, forall_const, true_implies, true_and, and_true, and_self, true_or, or_true, false_or, or_false, Value.category, List.length_cons, List.length_nil, Option.toList_some, Option.toList_none, List.cons_append, List.nil_append, List.append_nil, Prod.mk.injEq, Nat.add_zero, Nat.zero_add, Nat.reduceAdd, Nat.reduceSub, Nat.reduceEqDiff, Nat.reduceLeDiff, Nat.reduceLT, Nat.le_refl, beq_self_eq_true, Nat.reduceBEq, ne_eq, not_true_eq_false, not_false_eq_true, Int32.reduceAdd, Int32.reduceSub, Int32.reduceMul, Int32.reduceLE, Int32.reduceLT, Int32.reduceToNatClampNeg, b01_0, b01_1, ne_2_0, ne_3_0, ne_4_0, ne_5_0, ne_6_0, ne_m1_0, ne_m2_0, b01_01, b01_n, lt_m2, lt_m1, le_m2, le_m1, Classical.not_not, Bool.or_false, Bool.false_or, Bool.true_or, Bool.or_true, j_Part_fewestBaths_0, b_Part_fewestBaths_0, j_Part_fewestBaths_2, b_Part_fewestBaths_2, j_Part_fewestBaths_15, b_Part_fewestBaths_15, j_Part_fewestBaths_34, b_Part_fewestBaths_34, j_Part_fewestBaths_50, b_Part_fewestBaths_50, j_Part_fewestBaths_56, b_Part_fewestBaths_56, an_0, an_1, an_6, cl_0, cl_1, cl_6, ne_0_1, ne_0_6, ne_0_m2, ne_1_0, ne_1_6, ne_1_m2, ne_6_0, ne_6_1, ne_6_m2, ne_m2_0, ne_m2_1, ne_m2_6, pp_15_0, pp_38_0, sh_15, sh_38, sh_39, vi_0, vi_1, vi_6, l0, l1, l2, sh_15, pp_15_0, sT0 ht, sT1 ht, sT2 ht, sT3 ht, sT4 ht, sT5 ht, sT6 ht, sT7 ht, sT8 ht, sT9 ht, pT1 ht, pT2 ht, pT3 ht, pT4 ht, pT5 ht, pT6 ht, pT7 ht, pT8 ht, pT9 ht, e, c1]
    refine lp_Part_15 (many := many) (d := d + n) ?_ 6 0 M _ (by omega) e1 (fun j hj => by omega) ?_ ?_ ?_ ?_
    · intro L' k0 k1 k2
      refine cp_run 20 (fun t => t == 2) ck_Part_fewestBaths ?_
      simp only [cp_vc, cp_vs, cp_jm, cp_ent_en, cp_en_int, cp_en_ref, cp_en_ret, cp_en_long, cp_en_nil, cp_s1_at, cp_s2_at, cp_nl_int, cp_nl_ref, cp_nl_long, cp_nl_none, cp_pop_0, cp_pop_s, reduceIte, if_true, if_false, Bool.false_eq_true, Bool.true_eq_false, false_implies, implies_true, forall_const, true_implies, true_and, and_true, and_self, true_or, or_true, false_or, or_false, Value.category, List.length_cons, List.length_nil, Option.toList_some, Option.toList_none, List.cons_append, List.nil_append, List.append_nil, Prod.mk.injEq, Nat.add_zero, Nat.zero_add, Nat.reduceAdd, Nat.reduceSub, Nat.reduceEqDiff, Nat.reduceLeDiff, Nat.reduceLT, Nat.le_refl, beq_self_eq_true, Nat.reduceBEq, ne_eq, not_true_eq_false, not_false_eq_true, Int32.reduceAdd, Int32.reduceSub, Int32.reduceMul, Int32.reduceLE, Int32.reduceLT, Int32.reduceToNatClampNeg, b01_0, b01_1, ne_2_0, ne_3_0, ne_4_0, ne_5_0, ne_6_0, ne_m1_0, ne_m2_0, b01_01, b01_n, lt_m2, lt_m1, le_m2, le_m1, Classical.not_not, j_Part_fewestBaths_0, b_Part_fewestBaths_0, j_Part_fewestBaths_2, b_Part_fewestBaths_2, j_Part_fewestBaths_15, b_Part_fewestBaths_15, j_Part_fewestBaths_34, b_Part_fewestBaths_34, j_Part_fewestBaths_50, b_Part_fewestBaths_50, j_Part_fewestBaths_56, b_Part_fewestBaths_56, an_0, an_1, an_6, cl_0, cl_1, cl_6, ne_0_1, ne_0_6, ne_0_m2, ne_1_0, ne_1_6, ne_1_m2, ne_6_0, ne_6_1, ne_6_m2, ne_m2_0, ne_m2_1, ne_m2_6, pp_15_0, pp_38_0, sh_15, sh_38, sh_39, vi_0, vi_1, vi_6, k0, k1, k2]
      refine c_Part_putFrom (d := d) (many := many) hc (by omega) n (d + n) 0 0 (fun _ => 0) _ rfl (by omega) (by omega) (fun k => by simp) ?_ ?_
      · intro mm' hmm
        simp only [hmm, Option.map] at h1
        simp only [cp_kk, cp_vc, cp_vs, cp_jm, cp_ent_en, cp_en_int, cp_en_ref, cp_en_ret, cp_en_long, cp_en_nil, cp_s1_at, cp_s2_at, cp_nl_int, cp_nl_ref, cp_nl_long, cp_nl_none, cp_pop_0, cp_pop_s, reduceIte, if_true, if_false, Bool.false_eq_true, Bool.true_eq_false, false_implies, implies_true, forall_const, true_implies, true_and, and_true, and_self, true_or, or_true, false_or, or_false, Value.category, List.length_cons, List.length_nil, Option.toList_some, Option.toList_none, List.cons_append, List.nil_append, List.append_nil, Prod.mk.injEq, Nat.add_zero, Nat.zero_add, Nat.reduceAdd, Nat.reduceSub, Nat.reduceEqDiff, Nat.reduceLeDiff, Nat.reduceLT, Nat.le_refl, beq_self_eq_true, Nat.reduceBEq, ne_eq, not_true_eq_false, not_false_eq_true, Int32.reduceAdd, Int32.reduceSub, Int32.reduceMul, Int32.reduceLE, Int32.reduceLT, Int32.reduceToNatClampNeg, b01_0, b01_1, ne_2_0, ne_3_0, ne_4_0, ne_5_0, ne_6_0, ne_m1_0, ne_m2_0, b01_01, b01_n, lt_m2, lt_m1, le_m2, le_m1, Classical.not_not, Bool.or_false, Bool.false_or, Bool.true_or, Bool.or_true, j_Part_fewestBaths_0, b_Part_fewestBaths_0, j_Part_fewestBaths_2, b_Part_fewestBaths_2, j_Part_fewestBaths_15, b_Part_fewestBaths_15, j_Part_fewestBaths_34, b_Part_fewestBaths_34, j_Part_fewestBaths_50, b_Part_fewestBaths_50, j_Part_fewestBaths_56, b_Part_fewestBaths_56, an_0, an_1, an_6, cl_0, cl_1, cl_6, ne_0_1, ne_0_6, ne_0_m2, ne_1_0, ne_1_6, ne_1_m2, ne_6_0, ne_6_1, ne_6_m2, ne_m2_0, ne_m2_1, ne_m2_6, pp_15_0, pp_38_0, sh_15, sh_38, sh_39, vi_0, vi_1, vi_6, k0, k1, k2]
        exact h1 _ rfl
      · intro hnone
        simp only [hnone, Option.map] at h1 h0
        simp only [cp_kk, cp_vc, cp_vs, cp_jm, cp_ent_en, cp_en_int, cp_en_ref, cp_en_ret, cp_en_long, cp_en_nil, cp_s1_at, cp_s2_at, cp_nl_int, cp_nl_ref, cp_nl_long, cp_nl_none, cp_pop_0, cp_pop_s, reduceIte, if_true, if_false, Bool.false_eq_true, Bool.true_eq_false, false_implies, implies_true, forall_const, true_implies, true_and, and_true, and_self, true_or, or_true, false_or, or_false, Value.category, List.length_cons, List.length_nil, Option.toList_some, Option.toList_none, List.cons_append, List.nil_append, List.append_nil, Prod.mk.injEq, Nat.add_zero, Nat.zero_add, Nat.reduceAdd, Nat.reduceSub, Nat.reduceEqDiff, Nat.reduceLeDiff, Nat.reduceLT, Nat.le_refl, beq_self_eq_true, Nat.reduceBEq, ne_eq, not_true_eq_false, not_false_eq_true, Int32.reduceAdd, Int32.reduceSub, Int32.reduceMul, Int32.reduceLE, Int32.reduceLT, Int32.reduceToNatClampNeg, b01_0, b01_1, ne_2_0, ne_3_0, ne_4_0, ne_5_0, ne_6_0, ne_m1_0, ne_m2_0, b01_01, b01_n, lt_m2, lt_m1, le_m2, le_m1, Classical.not_not, Bool.or_false, Bool.false_or, Bool.true_or, Bool.or_true, j_Part_fewestBaths_0, b_Part_fewestBaths_0, j_Part_fewestBaths_2, b_Part_fewestBaths_2, j_Part_fewestBaths_15, b_Part_fewestBaths_15, j_Part_fewestBaths_34, b_Part_fewestBaths_34, j_Part_fewestBaths_50, b_Part_fewestBaths_50, j_Part_fewestBaths_56, b_Part_fewestBaths_56, an_0, an_1, an_6, cl_0, cl_1, cl_6, ne_0_1, ne_0_6, ne_0_m2, ne_1_0, ne_1_6, ne_1_m2, ne_6_0, ne_6_1, ne_6_m2, ne_m2_0, ne_m2_1, ne_m2_6, pp_15_0, pp_38_0, sh_15, sh_38, sh_39, vi_0, vi_1, vi_6, k0, k1, k2, nI_1]
        refine ih (many + 1) _ _ (by omega) ?_ ?_ ?_ ?_ h1 h0
        · intro a j ha
          unfold prm
          rw [if_neg ha]
        · simp [cp_s1_at, cp_nl_int, cp_nl_ref, k0]
        · simp [cp_s1_at, cp_nl_int, cp_nl_ref, k1]
        · simp [cp_s1_at, cp_nl_int, cp_nl_ref]
    · simp [cp_s1_at, cp_nl_int, cp_nl_ref, l0]
    · simp [cp_s1_at, cp_nl_int, cp_nl_ref, l1]
    · simp [cp_s1_at, cp_nl_int, cp_nl_ref, l2]
    · simp [cp_s1_at, nI_0]
theorem c_Part_fewest {D : Nat} (hD : D = d + n + 5) (hc : cT I t n) (h1 : ∀ q, cfb I n n 1 = some q → Q (some (.int (nI q.1))) SH (prm I q.2) J (PP t u r x)) (h0 : cfb I n n 1 = none → ∀ M', (∀ a j, ¬ (a = 39 ∧ j < 6) → M' a j = I a j) → Q (some (.int (-2))) SH M' J (PP t u r x)) : MW g false D 0 0 m_Part_fewestBaths [.ref 38, .ref 15] SH I J (PP t u r x) Q := by
  subst hD
  refine MW.of ok_Part_fewestBaths (Nat.le_of_ble_eq_true rfl) ?_
  refine cp_run 20 (fun t => t == 2) ck_Part_fewestBaths ?_
  simp only [cp_vc, cp_vs, cp_jm, cp_ent_en, cp_en_int, cp_en_ref, cp_en_ret, cp_en_long, cp_en_nil, cp_s1_at, cp_s2_at, cp_nl_int, cp_nl_ref, cp_nl_long, cp_nl_none, cp_pop_0, cp_pop_s, reduceIte, if_true, if_false, Bool.false_eq_true, Bool.true_eq_false, false_implies, implies_true, forall_const, true_implies, true_and, and_true, and_self, true_or, or_true, false_or, or_false, Value.category, List.length_cons, List.length_nil, Option.toList_some, Option.toList_none, List.cons_append, List.nil_append, List.append_nil, Prod.mk.injEq, Nat.add_zero, Nat.zero_add, Nat.reduceAdd, Nat.reduceSub, Nat.reduceEqDiff, Nat.reduceLeDiff, Nat.reduceLT, Nat.le_refl, beq_self_eq_true, Nat.reduceBEq, ne_eq, not_true_eq_false, not_false_eq_true, Int32.reduceAdd, Int32.reduceSub, Int32.reduceMul, Int32.reduceLE, Int32.reduceLT, Int32.reduceToNatClampNeg, b01_0, b01_1, ne_2_0, ne_3_0, ne_4_0, ne_5_0, ne_6_0, ne_m1_0, ne_m2_0, b01_01, b01_n, lt_m2, lt_m1, le_m2, le_m1, Classical.not_not, j_Part_fewestBaths_0, b_Part_fewestBaths_0, j_Part_fewestBaths_2, b_Part_fewestBaths_2, j_Part_fewestBaths_15, b_Part_fewestBaths_15, j_Part_fewestBaths_34, b_Part_fewestBaths_34, j_Part_fewestBaths_50, b_Part_fewestBaths_50, j_Part_fewestBaths_56, b_Part_fewestBaths_56, an_0, an_1, an_6, cl_0, cl_1, cl_6, ne_0_1, ne_0_6, ne_0_m2, ne_1_0, ne_1_6, ne_1_m2, ne_6_0, ne_6_1, ne_6_m2, ne_m2_0, ne_m2_1, ne_m2_6, pp_15_0, pp_38_0, sh_15, sh_38, sh_39, vi_0, vi_1, vi_6]
  refine lp_Part_fewest hc n 1 I _ (by omega) (fun _ _ _ => rfl) ?_ ?_ ?_ h1 h0
  · simp [cp_s1_at, cp_ent_en, cp_en_ref, cp_nl_ref]
  · simp [cp_s1_at, cp_ent_en, cp_en_ref, cp_nl_ref]
  · simp [cp_s1_at]
    rfl
end Part1
