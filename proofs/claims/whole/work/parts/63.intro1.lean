section Intro1
variable {g : cp_G} {d : Nat} {sh : cp_H} {I : cp_I} {J : cp_J} {P : cp_P} {Q : cp_QT} {t u r x n : Nat}
theorem fiO_some {α : Type} {p : Nat → Option α} : ∀ {m k : Nat} {a : α}, fiO p m k = some a → ∃ i, k ≤ i ∧ i < k + m ∧ p i = some a ∧ ∀ j, k ≤ j → j < i → p j = none
  | 0, k, a, h => by simp [fiO] at h
  | m + 1, k, a, h => by
    rw [fiO] at h
    cases hp : p k with
    | some b =>
      rw [hp] at h
      simp only [Option.some.injEq] at h
      exact ⟨k, Nat.le_refl _, by omega, by rw [hp, h], fun j h1 h2 => by omega⟩
    | none =>
      rw [hp] at h
      obtain ⟨i, h1, h2, h3, h4⟩ := fiO_some h
      refine ⟨i, by omega, by omega, h3, fun j j1 j2 => ?_⟩
      by_cases e : j = k
      · rw [e]
        exact hp
      · exact h4 j (by omega) j2
theorem fiO_none {α : Type} {p : Nat → Option α} : ∀ {m k : Nat}, fiO p m k = none ↔ ∀ j, k ≤ j → j < k + m → p j = none
  | 0, k => by
    simp only [fiO, true_iff]
    intro j h1 h2
    omega
  | m + 1, k => by
    rw [fiO]
    cases hp : p k with
    | some b =>
      simp only [reduceCtorEq, false_iff]
      intro h
      have := h k (by omega) (by omega)
      rw [hp] at this
      cases this
    | none =>
      simp only
      rw [fiO_none]
      constructor
      · intro h j h1 h2
        by_cases e : j = k
        · rw [e]
          exact hp
        · exact h j (by omega) (by omega)
      · intro h j h1 h2
        exact h j (by omega) (by omega)
theorem sp_pf_lt {S : Nat → Bool} {many : Nat} : ∀ {f b used : Nat} {mm mm' : Nat → Nat}, (∀ k, mm k < 2 ^ b) → sp_pf S many f b used mm = some mm' → ∀ k, mm' k < 2 ^ (b + f)
  | 0, b, used, mm, mm', hm, h, k => by
    rw [sp_pf] at h
    split at h
    · simp only [Option.some.injEq] at h
      subst h
      exact hm k
    · cases h
  | f + 1, b, used, mm, mm', hm, h, k => by
    rw [sp_pf] at h
    obtain ⟨i, -, -, h3, -⟩ := fiO_some h
    have hps : 2 ^ (b + 1) = 2 ^ b + 2 ^ b := by rw [Nat.pow_succ]; omega
    have := sp_pf_lt (b := b + 1) (fun j => by
      unfold updN
      by_cases ej : j = i
      · rw [if_pos ej]
        exact Nat.or_lt_two_pow (show mm i < 2 ^ (b + 1) by have := hm i; omega) (show 2 ^ b < 2 ^ (b + 1) by have := Nat.two_pow_pos b; omega)
      · rw [if_neg ej]
        have := hm j
        omega) h3 k
    rw [show b + (f + 1) = b + 1 + f by omega]
    exact this
theorem cfb_F (hn6 : n ≤ 6) {q : Nat × (Nat → Nat)} (h : cfb I n n 1 = some q) : 1 ≤ q.1 ∧ q.1 ≤ n ∧ (∀ k, q.2 k < 64) ∧ sp_pf (cs I) q.1 n 0 0 (fun _ => 0) = some q.2 ∧ ∀ j, 1 ≤ j → j < q.1 → sp_pf (cs I) j n 0 0 (fun _ => 0) = none := by
  obtain ⟨i, h1, h2, h3, h4⟩ := fiO_some h
  cases hp : sp_pf (cs I) i n 0 0 (fun _ => 0) with
  | none => rw [hp] at h3; cases h3
  | some mm =>
    rw [hp] at h3
    simp only [Option.map, Option.some.injEq] at h3
    subst h3
    refine ⟨h1, by omega, fun k => ?_, hp, fun j j1 j2 => ?_⟩
    · have := sp_pf_lt (fun k => by simp) hp k
      rw [Nat.zero_add] at this
      exact Nat.lt_of_lt_of_le this (pw64 hn6)
    · have := h4 j j1 j2
      cases hj : sp_pf (cs I) j n 0 0 (fun _ => 0) with
      | none => rfl
      | some mm => rw [hj] at this; cases this
theorem lp_Part_numberOf {b many : Nat} {mm : Nat → Nat} (hb : b < 6) (hmany : many ≤ 6) (hm : ∀ k, mm k < 64) : ∀ (m k : Nat) (L : cp_Lo), k + m = many → L 0 = some (.ref 38) → L 2 = some (.int (nI b)) → L 3 = some (.int (nI many)) → L 4 = some (.int (nI k)) →
    Q (some (.int (oI (sp_fst (fun k => (mm k).testBit b) m k)))) SH (prm I mm) J (PP t u r x) → RW g false (d + 1) 0 0 m_Part_numberOf 0 0 9 L [] SH (prm I mm) J (PP t u r x) Q := by
  intro m
  induction m with
  | zero =>
    intro k L hk l0 l2 l3 l4 hq
    have c1 : nI many ≤ nI k := nI_le (by omega) (by omega)
    refine cp_run 20 (fun t => t == 9) ck_Part_numberOf ?_
    simp only [cp_vc, cp_vs, cp_jm, cp_ent_en, cp_en_int, cp_en_ref, cp_en_ret, cp_en_long, cp_en_nil, cp_s1_at, cp_s2_at, cp_nl_int, cp_nl_ref, cp_nl_long, cp_nl_none, cp_pop_0, cp_pop_s, reduceIte, if_true, if_false, Bool.false_eq_true, Bool.true_eq_false, false_implies, implies_true, forall_const, true_implies, true_and, and_true, and_self, true_or, or_true, false_or, or_false, Value.category, List.length_cons, List.length_nil, Option.toList_some, Option.toList_none, List.cons_append, List.nil_append, List.append_nil, Prod.mk.injEq, Nat.add_zero, Nat.zero_add, Nat.reduceAdd, Nat.reduceSub, Nat.reduceEqDiff, Nat.reduceLeDiff, Nat.reduceLT, Nat.le_refl, beq_self_eq_true, Nat.reduceBEq, ne_eq, not_true_eq_false, not_false_eq_true, Int32.reduceAdd, Int32.reduceSub, Int32.reduceMul, Int32.reduceLE, Int32.reduceLT, Int32.reduceToNatClampNeg, b01_0, b01_1, ne_2_0, ne_3_0, ne_4_0, ne_5_0, ne_6_0, ne_m1_0, ne_m2_0, b01_01, b01_n, lt_m2, lt_m1, le_m2, le_m1, Classical.not_not, j_Part_numberOf_0, b_Part_numberOf_0, j_Part_numberOf_9, b_Part_numberOf_9, j_Part_numberOf_32, b_Part_numberOf_32, j_Part_numberOf_38, b_Part_numberOf_38, an_0, an_1, cl_0, cl_1, ne_0_1, ne_0_m2, ne_1_0, ne_1_m2, ne_m2_0, ne_m2_1, pp_38_0, sh_38, sh_39, vi_0, vi_1, l0, l2, l3, l4, c1]
    exact hq
  | succ m ih =>
    intro k L hk l0 l2 l3 l4 hq
    have c1 : ¬ nI many ≤ nI k := nI_ge (by omega) (by omega)
    have er := prm_r (I := I) (mm := mm) (show k < 6 by omega)
    rw [sp_fst] at hq
    refine cp_run 40 (fun t => t == 9) ck_Part_numberOf ?_
    simp only [cp_vc, cp_vs, cp_jm, cp_ent_en, cp_en_int, cp_en_ref, cp_en_ret, cp_en_long, cp_en_nil, cp_s1_at, cp_s2_at, cp_nl_int, cp_nl_ref, cp_nl_long, cp_nl_none, cp_pop_0, cp_pop_s, reduceIte, if_true, if_false, Bool.false_eq_true, Bool.true_eq_false, false_implies, implies_true, forall_const, true_implies, true_and, and_true, and_self, true_or, or_true, false_or, or_false, Value.category, List.length_cons, List.length_nil, Option.toList_some, Option.toList_none, List.cons_append, List.nil_append, List.append_nil, Prod.mk.injEq, Nat.add_zero, Nat.zero_add, Nat.reduceAdd, Nat.reduceSub, Nat.reduceEqDiff, Nat.reduceLeDiff, Nat.reduceLT, Nat.le_refl, beq_self_eq_true, Nat.reduceBEq, ne_eq, not_true_eq_false, not_false_eq_true, Int32.reduceAdd, Int32.reduceSub, Int32.reduceMul, Int32.reduceLE, Int32.reduceLT, Int32.reduceToNatClampNeg, b01_0, b01_1, ne_2_0, ne_3_0, ne_4_0, ne_5_0, ne_6_0, ne_m1_0, ne_m2_0, b01_01, b01_n, lt_m2, lt_m1, le_m2, le_m1, Classical.not_not, j_Part_numberOf_0, b_Part_numberOf_0, j_Part_numberOf_9, b_Part_numberOf_9, j_Part_numberOf_32, b_Part_numberOf_32, j_Part_numberOf_38, b_Part_numberOf_38, an_0, an_1, cl_0, cl_1, ne_0_1, ne_0_m2, ne_1_0, ne_1_m2, ne_m2_0, ne_m2_1, pp_38_0, sh_38, sh_39, vi_0, vi_1, l0, l2, l3, l4, c1, vin (show k < 6 by omega) (by omega), ncl (show k < 1000 by omega), er, hb_0 (hm k) (show b < 8 by omega), nI_1]
    refine ⟨fun c => ?_, fun c => ?_⟩
    · rw [if_neg (by simp [c])] at hq
      refine ih (k + 1) _ (by omega) ?_ ?_ ?_ ?_ hq <;> simp [cp_s1_at, cp_nl_int, cp_nl_ref, l0, l2, l3]
    · rw [if_pos (by simpa using c)] at hq
      exact hq
theorem c_Part_numberOf {D b : Nat} (hD : D = d + n + 6) (hc : cT I t n) (hb : b < n) (h1 : ∀ q, cfb I n n 1 = some q → Q (some (.int (oI (sp_fst (fun k => (q.2 k).testBit b) q.1 0)))) SH (prm I q.2) J (PP t u r x)) (h0 : cfb I n n 1 = none → ∀ M', (∀ a j, ¬ (a = 39 ∧ j < 6) → M' a j = I a j) → Q (some (.int (-2))) SH M' J (PP t u r x)) : MW g false D 0 0 m_Part_numberOf [.ref 38, .ref 15, .int (nI b)] SH I J (PP t u r x) Q := by
  subst hD
  have hn6 := hc.2.1
  refine MW.of ok_Part_numberOf (Nat.le_of_ble_eq_true rfl) ?_
  refine cp_run 20 (fun t => t == 9) ck_Part_numberOf ?_
  simp only [cp_vc, cp_vs, cp_jm, cp_ent_en, cp_en_int, cp_en_ref, cp_en_ret, cp_en_long, cp_en_nil, cp_s1_at, cp_s2_at, cp_nl_int, cp_nl_ref, cp_nl_long, cp_nl_none, cp_pop_0, cp_pop_s, reduceIte, if_true, if_false, Bool.false_eq_true, Bool.true_eq_false, false_implies, implies_true, forall_const, true_implies, true_and, and_true, and_self, true_or, or_true, false_or, or_false, Value.category, List.length_cons, List.length_nil, Option.toList_some, Option.toList_none, List.cons_append, List.nil_append, List.append_nil, Prod.mk.injEq, Nat.add_zero, Nat.zero_add, Nat.reduceAdd, Nat.reduceSub, Nat.reduceEqDiff, Nat.reduceLeDiff, Nat.reduceLT, Nat.le_refl, beq_self_eq_true, Nat.reduceBEq, ne_eq, not_true_eq_false, not_false_eq_true, Int32.reduceAdd, Int32.reduceSub, Int32.reduceMul, Int32.reduceLE, Int32.reduceLT, Int32.reduceToNatClampNeg, b01_0, b01_1, ne_2_0, ne_3_0, ne_4_0, ne_5_0, ne_6_0, ne_m1_0, ne_m2_0, b01_01, b01_n, lt_m2, lt_m1, le_m2, le_m1, Classical.not_not, j_Part_numberOf_0, b_Part_numberOf_0, j_Part_numberOf_9, b_Part_numberOf_9, j_Part_numberOf_32, b_Part_numberOf_32, j_Part_numberOf_38, b_Part_numberOf_38, an_0, an_1, cl_0, cl_1, ne_0_1, ne_0_m2, ne_1_0, ne_1_m2, ne_m2_0, ne_m2_1, pp_38_0, sh_38, sh_39, vi_0, vi_1]
  refine c_Part_fewest rfl hc ?_ ?_
  · intro q hq
    obtain ⟨q1, q2, q3, -, -⟩ := cfb_F hn6 hq
    simp only [cp_kk, cp_vc, cp_vs, cp_jm, cp_ent_en, cp_en_int, cp_en_ref, cp_en_ret, cp_en_long, cp_en_nil, cp_s1_at, cp_s2_at, cp_nl_int, cp_nl_ref, cp_nl_long, cp_nl_none, cp_pop_0, cp_pop_s, reduceIte, if_true, if_false, Bool.false_eq_true, Bool.true_eq_false, false_implies, implies_true, forall_const, true_implies, true_and, and_true, and_self, true_or, or_true, false_or, or_false, Value.category, List.length_cons, List.length_nil, Option.toList_some, Option.toList_none, List.cons_append, List.nil_append, List.append_nil, Prod.mk.injEq, Nat.add_zero, Nat.zero_add, Nat.reduceAdd, Nat.reduceSub, Nat.reduceEqDiff, Nat.reduceLeDiff, Nat.reduceLT, Nat.le_refl, beq_self_eq_true, Nat.reduceBEq, ne_eq, not_true_eq_false, not_false_eq_true, Int32.reduceAdd, Int32.reduceSub, Int32.reduceMul, Int32.reduceLE, Int32.reduceLT, Int32.reduceToNatClampNeg, b01_0, b01_1, ne_2_0, ne_3_0, ne_4_0, ne_5_0, ne_6_0, ne_m1_0, ne_m2_0, b01_01, b01_n, lt_m2, lt_m1, le_m2, le_m1, Classical.not_not, Bool.or_false, Bool.false_or, Bool.true_or, Bool.or_true, j_Part_numberOf_0, b_Part_numberOf_0, j_Part_numberOf_9, b_Part_numberOf_9, j_Part_numberOf_32, b_Part_numberOf_32, j_Part_numberOf_38, b_Part_numberOf_38, an_0, an_1, cl_0, cl_1, ne_0_1, ne_0_m2, ne_1_0, ne_1_m2, ne_m2_0, ne_m2_1, pp_38_0, sh_38, sh_39, vi_0, vi_1]
    refine lp_Part_numberOf (d := d + n + 5) (b := b) (many := q.1) (by omega) (by omega) q3 q.1 0 _ (by omega) ?_ ?_ ?_ ?_ (h1 q hq) <;> simp [cp_s1_at, cp_ent_en, cp_en_ref, cp_en_int, cp_nl_ref, cp_nl_int, nI_0]
  · intro hno M' hM
    simp only [cp_kk, cp_vc, cp_vs, cp_jm, cp_ent_en, cp_en_int, cp_en_ref, cp_en_ret, cp_en_long, cp_en_nil, cp_s1_at, cp_s2_at, cp_nl_int, cp_nl_ref, cp_nl_long, cp_nl_none, cp_pop_0, cp_pop_s, reduceIte, if_true, if_false, Bool.false_eq_true, Bool.true_eq_false, false_implies, implies_true, forall_const, true_implies, true_and, and_true, and_self, true_or, or_true, false_or, or_false, Value.category, List.length_cons, List.length_nil, Option.toList_some, Option.toList_none, List.cons_append, List.nil_append, List.append_nil, Prod.mk.injEq, Nat.add_zero, Nat.zero_add, Nat.reduceAdd, Nat.reduceSub, Nat.reduceEqDiff, Nat.reduceLeDiff, Nat.reduceLT, Nat.le_refl, beq_self_eq_true, Nat.reduceBEq, ne_eq, not_true_eq_false, not_false_eq_true, Int32.reduceAdd, Int32.reduceSub, Int32.reduceMul, Int32.reduceLE, Int32.reduceLT, Int32.reduceToNatClampNeg, b01_0, b01_1, ne_2_0, ne_3_0, ne_4_0, ne_5_0, ne_6_0, ne_m1_0, ne_m2_0, b01_01, b01_n, lt_m2, lt_m1, le_m2, le_m1, Classical.not_not, Bool.or_false, Bool.false_or, Bool.true_or, Bool.or_true, j_Part_numberOf_0, b_Part_numberOf_0, j_Part_numberOf_9, b_Part_numberOf_9, j_Part_numberOf_32, b_Part_numberOf_32, j_Part_numberOf_38, b_Part_numberOf_38, an_0, an_1, cl_0, cl_1, ne_0_1, ne_0_m2, ne_1_0, ne_1_m2, ne_m2_0, ne_m2_1, pp_38_0, sh_38, sh_39, vi_0, vi_1]
    refine cp_run 20 (fun _ => false) ck_Part_numberOf ?_
    simp only [cp_vc, cp_vs, cp_jm, cp_ent_en, cp_en_int, cp_en_ref, cp_en_ret, cp_en_long, cp_en_nil, cp_s1_at, cp_s2_at, cp_nl_int, cp_nl_ref, cp_nl_long, cp_nl_none, cp_pop_0, cp_pop_s, reduceIte, if_true, if_false, Bool.false_eq_true, Bool.true_eq_false, false_implies, implies_true, forall_const, true_implies, true_and, and_true, and_self, true_or, or_true, false_or, or_false, Value.category, List.length_cons, List.length_nil, Option.toList_some, Option.toList_none, List.cons_append, List.nil_append, List.append_nil, Prod.mk.injEq, Nat.add_zero, Nat.zero_add, Nat.reduceAdd, Nat.reduceSub, Nat.reduceEqDiff, Nat.reduceLeDiff, Nat.reduceLT, Nat.le_refl, beq_self_eq_true, Nat.reduceBEq, ne_eq, not_true_eq_false, not_false_eq_true, Int32.reduceAdd, Int32.reduceSub, Int32.reduceMul, Int32.reduceLE, Int32.reduceLT, Int32.reduceToNatClampNeg, b01_0, b01_1, ne_2_0, ne_3_0, ne_4_0, ne_5_0, ne_6_0, ne_m1_0, ne_m2_0, b01_01, b01_n, lt_m2, lt_m1, le_m2, le_m1, Classical.not_not, j_Part_numberOf_0, b_Part_numberOf_0, j_Part_numberOf_9, b_Part_numberOf_9, j_Part_numberOf_32, b_Part_numberOf_32, j_Part_numberOf_38, b_Part_numberOf_38, an_0, an_1, cl_0, cl_1, ne_0_1, ne_0_m2, ne_1_0, ne_1_m2, ne_m2_0, ne_m2_1, pp_38_0, sh_38, sh_39, vi_0, vi_1, cp_s1_at, cp_nl_int]
    exact h0 hno M' hM
/-! circles -/
def wdn (K : Nat → Nat) (n s : Nat) : Nat := fo (sp_spr K s) n 0 s
theorem wdn_lt {K : Nat → Nat} (hK : ∀ b, b < n → K b < 64) {s : Nat} (hs : s < 64) : wdn K n s < 64 := by
  have key : ∀ (m k z : Nat), k + m ≤ n → z < 64 → fo (sp_spr K s) m k z < 64 := by
    intro m
    induction m with
    | zero => intro k z _ hz; exact hz
    | succ m ih =>
      intro k z hk hz
      rw [fo]
      refine ih (k + 1) _ (by omega) ?_
      unfold sp_spr
      split
      · exact or_lt64 hz (hK k (by omega))
      · exact hz
  exact key n 0 s (by omega) hs
theorem lp_Intro_widen {K F : Nat → Nat} {s : Nat} (hc : cT I t n) (hK : cKF I n K F) (hs : s < 64) : ∀ (m b z : Nat) (L : cp_Lo), b + m = n → z < 64 → L 0 = some (.ref 15) → L 1 = some (.int (nI s)) → L 2 = some (.int (nI z)) → L 3 = some (.int (nI b)) →
    Q (some (.int (nI (fo (sp_spr K s) m b z)))) SH I J (PP t u r x) → RW g false (d + 1) 0 0 m_Intro_widen 0 0 4 L [] SH I J (PP t u r x) Q := by
  obtain ⟨ht, hn6, hn, he⟩ := id hc
  intro m
  induction m with
  | zero =>
    intro b z L hb hz l0 l1 l2 l3 hq
    have c1 : nI n ≤ nI b := nI_le (by omega) (by omega)
    refine cp_run 20 (fun t => t == 4) ck_Intro_widen ?_
    simp only [cp_vc, cp_vs, cp_jm, cp_ent_en, cp_en_int, cp_en_ref, cp_en_ret, cp_en_long, cp_en_nil, cp_s1_at, cp_s2_at, cp_nl_int, cp_nl_ref, cp_nl_long, cp_nl_none, cp_pop_0, cp_pop_s, reduceIte, if_true, if_false, Bool.false_eq_true, Bool.true_eq_false, false_implies, implies_true, forall_const, true_implies, true_and, and_true, and_self, true_or, or_true, false_or, or_false, Value.category, List.length_cons, List.length_nil, Option.toList_some, Option.toList_none, List.cons_append, List.nil_append, List.append_nil, Prod.mk.injEq, Nat.add_zero, Nat.zero_add, Nat.reduceAdd, Nat.reduceSub, Nat.reduceEqDiff, Nat.reduceLeDiff, Nat.reduceLT, Nat.le_refl, beq_self_eq_true, Nat.reduceBEq, ne_eq, not_true_eq_false, not_false_eq_true, Int32.reduceAdd, Int32.reduceSub, Int32.reduceMul, Int32.reduceLE, Int32.reduceLT, Int32.reduceToNatClampNeg, b01_0, b01_1, ne_2_0, ne_3_0, ne_4_0, ne_5_0, ne_6_0, ne_m1_0, ne_m2_0, b01_01, b01_n, lt_m2, lt_m1, le_m2, le_m1, Classical.not_not, j_Intro_widen_0, b_Intro_widen_0, j_Intro_widen_4, b_Intro_widen_4, j_Intro_widen_32, b_Intro_widen_32, j_Intro_widen_38, b_Intro_widen_38, an_0, an_1, cl_0, cl_1, ne_0_1, ne_1_0, pp_15_0, pp_15_4, sh_15, sh_26, vi_0, vi_1, l0, l1, l2, l3, sh_15, pp_15_0, sT0 ht, sT1 ht, sT2 ht, sT3 ht, sT4 ht, sT5 ht, sT6 ht, sT7 ht, sT8 ht, sT9 ht, pT1 ht, pT2 ht, pT3 ht, pT4 ht, pT5 ht, pT6 ht, pT7 ht, pT8 ht, pT9 ht, hn, c1]
    exact hq
  | succ m ih =>
    intro b z L hb hz l0 l1 l2 l3 hq
    have c1 : ¬ nI n ≤ nI b := nI_ge (by omega) (by omega)
    obtain ⟨k1, k2, -, -⟩ := hK b (by omega)
    rw [fo] at hq
    refine cp_run 40 (fun t => t == 4) ck_Intro_widen ?_
    simp only [cp_vc, cp_vs, cp_jm, cp_ent_en, cp_en_int, cp_en_ref, cp_en_ret, cp_en_long, cp_en_nil, cp_s1_at, cp_s2_at, cp_nl_int, cp_nl_ref, cp_nl_long, cp_nl_none, cp_pop_0, cp_pop_s, reduceIte, if_true, if_false, Bool.false_eq_true, Bool.true_eq_false, false_implies, implies_true, forall_const, true_implies, true_and, and_true, and_self, true_or, or_true, false_or, or_false, Value.category, List.length_cons, List.length_nil, Option.toList_some, Option.toList_none, List.cons_append, List.nil_append, List.append_nil, Prod.mk.injEq, Nat.add_zero, Nat.zero_add, Nat.reduceAdd, Nat.reduceSub, Nat.reduceEqDiff, Nat.reduceLeDiff, Nat.reduceLT, Nat.le_refl, beq_self_eq_true, Nat.reduceBEq, ne_eq, not_true_eq_false, not_false_eq_true, Int32.reduceAdd, Int32.reduceSub, Int32.reduceMul, Int32.reduceLE, Int32.reduceLT, Int32.reduceToNatClampNeg, b01_0, b01_1, ne_2_0, ne_3_0, ne_4_0, ne_5_0, ne_6_0, ne_m1_0, ne_m2_0, b01_01, b01_n, lt_m2, lt_m1, le_m2, le_m1, Classical.not_not, j_Intro_widen_0, b_Intro_widen_0, j_Intro_widen_4, b_Intro_widen_4, j_Intro_widen_32, b_Intro_widen_32, j_Intro_widen_38, b_Intro_widen_38, an_0, an_1, cl_0, cl_1, ne_0_1, ne_1_0, pp_15_0, pp_15_4, sh_15, sh_26, vi_0, vi_1, l0, l1, l2, l3, sh_15, pp_15_0, sT0 ht, sT1 ht, sT2 ht, sT3 ht, sT4 ht, sT5 ht, sT6 ht, sT7 ht, sT8 ht, sT9 ht, pT1 ht, pT2 ht, pT3 ht, pT4 ht, pT5 ht, pT6 ht, pT7 ht, pT8 ht, pT9 ht, hn, c1, hb_0 hs (show b < 8 by omega), vin (show b < 6 by omega) (by omega), ncl (show b < 1000 by omega), k1, or_nI hz k2, nI_1]
    refine ⟨fun c => ?_, fun c => ?_⟩
    · have e : sp_spr K s b z = z := by simp [sp_spr, c]
      rw [e] at hq
      refine ih (b + 1) z _ (by omega) hz ?_ ?_ ?_ ?_ hq <;> simp [cp_s1_at, cp_nl_int, cp_nl_ref, l0, l1, l2]
    · have e : sp_spr K s b z = z ||| K b := by simp [sp_spr, c]
      rw [e] at hq
      refine ih (b + 1) (z ||| K b) _ (by omega) (or_lt64 hz k2) ?_ ?_ ?_ ?_ hq <;> simp [cp_s1_at, cp_nl_int, cp_nl_ref, l0, l1]
theorem c_Intro_widen {K F : Nat → Nat} {s : Nat} (hc : cT I t n) (hK : cKF I n K F) (hs : s < 64) (h : Q (some (.int (nI (wdn K n s)))) SH I J (PP t u r x)) : MW g false (d + 1) 0 0 m_Intro_widen [.ref 15, .int (nI s)] SH I J (PP t u r x) Q := by
  refine MW.of ok_Intro_widen (Nat.le_of_ble_eq_true rfl) ?_
  refine cp_run 20 (fun t => t == 4) ck_Intro_widen ?_
  simp only [cp_vc, cp_vs, cp_jm, cp_ent_en, cp_en_int, cp_en_ref, cp_en_ret, cp_en_long, cp_en_nil, cp_s1_at, cp_s2_at, cp_nl_int, cp_nl_ref, cp_nl_long, cp_nl_none, cp_pop_0, cp_pop_s, reduceIte, if_true, if_false, Bool.false_eq_true, Bool.true_eq_false, false_implies, implies_true, forall_const, true_implies, true_and, and_true, and_self, true_or, or_true, false_or, or_false, Value.category, List.length_cons, List.length_nil, Option.toList_some, Option.toList_none, List.cons_append, List.nil_append, List.append_nil, Prod.mk.injEq, Nat.add_zero, Nat.zero_add, Nat.reduceAdd, Nat.reduceSub, Nat.reduceEqDiff, Nat.reduceLeDiff, Nat.reduceLT, Nat.le_refl, beq_self_eq_true, Nat.reduceBEq, ne_eq, not_true_eq_false, not_false_eq_true, Int32.reduceAdd, Int32.reduceSub, Int32.reduceMul, Int32.reduceLE, Int32.reduceLT, Int32.reduceToNatClampNeg, b01_0, b01_1, ne_2_0, ne_3_0, ne_4_0, ne_5_0, ne_6_0, ne_m1_0, ne_m2_0, b01_01, b01_n, lt_m2, lt_m1, le_m2, le_m1, Classical.not_not, j_Intro_widen_0, b_Intro_widen_0, j_Intro_widen_4, b_Intro_widen_4, j_Intro_widen_32, b_Intro_widen_32, j_Intro_widen_38, b_Intro_widen_38, an_0, an_1, cl_0, cl_1, ne_0_1, ne_1_0, pp_15_0, pp_15_4, sh_15, sh_26, vi_0, vi_1]
  refine lp_Intro_widen hc hK hs n 0 s _ (by omega) hs ?_ ?_ ?_ ?_ h <;> simp [cp_s1_at, cp_ent_en, cp_en_ref, cp_en_int, cp_nl_ref, cp_nl_int, nI_0]
def cci (K : Nat → Nat) (n b : Nat) : Nat := fo (fun _ s => wdn K n s) n 0 (2 ^ b)
theorem fo_lt {f : Nat → Nat → Nat} (hf : ∀ k s, s < 64 → f k s < 64) : ∀ (m k s : Nat), s < 64 → fo f m k s < 64
  | 0, _, _, h => h
  | m + 1, k, s, h => fo_lt hf m (k + 1) _ (hf k s h)
theorem cci_lt {K F : Nat → Nat} (hK : cKF I n K F) {b : Nat} (hb : b < 6) : cci K n b < 64 := fo_lt (fun _ s hs => wdn_lt (fun b hb => (hK b hb).2.1) hs) n 0 _ (pow_lt64 hb)
theorem lp_Intro_circleOf {K F : Nat → Nat} (hc : cT I t n) (hK : cKF I n K F) : ∀ (m k s : Nat) (L : cp_Lo), k + m = n → s < 64 → L 0 = some (.ref 15) → L 2 = some (.int (nI s)) → L 3 = some (.int (nI k)) →
    Q (some (.int (nI (fo (fun _ s => wdn K n s) m k s)))) SH I J (PP t u r x) → RW g false (d + 2) 0 0 m_Intro_circleOf 0 0 6 L [] SH I J (PP t u r x) Q := by
  obtain ⟨ht, hn6, hn, he⟩ := id hc
  intro m
  induction m with
  | zero =>
    intro k s L hk hs l0 l2 l3 hq
    have c1 : nI n ≤ nI k := nI_le (by omega) (by omega)
    refine cp_run 20 (fun t => t == 6) ck_Intro_circleOf ?_
    simp only [cp_vc, cp_vs, cp_jm, cp_ent_en, cp_en_int, cp_en_ref, cp_en_ret, cp_en_long, cp_en_nil, cp_s1_at, cp_s2_at, cp_nl_int, cp_nl_ref, cp_nl_long, cp_nl_none, cp_pop_0, cp_pop_s, reduceIte, if_true, if_false, Bool.false_eq_true, Bool.true_eq_false, false_implies, implies_true, forall_const, true_implies, true_and, and_true, and_self, true_or, or_true, false_or, or_false, Value.category, List.length_cons, List.length_nil, Option.toList_some, Option.toList_none, List.cons_append, List.nil_append, List.append_nil, Prod.mk.injEq, Nat.add_zero, Nat.zero_add, Nat.reduceAdd, Nat.reduceSub, Nat.reduceEqDiff, Nat.reduceLeDiff, Nat.reduceLT, Nat.le_refl, beq_self_eq_true, Nat.reduceBEq, ne_eq, not_true_eq_false, not_false_eq_true, Int32.reduceAdd, Int32.reduceSub, Int32.reduceMul, Int32.reduceLE, Int32.reduceLT, Int32.reduceToNatClampNeg, b01_0, b01_1, ne_2_0, ne_3_0, ne_4_0, ne_5_0, ne_6_0, ne_m1_0, ne_m2_0, b01_01, b01_n, lt_m2, lt_m1, le_m2, le_m1, Classical.not_not, j_Intro_circleOf_0, b_Intro_circleOf_0, j_Intro_circleOf_6, b_Intro_circleOf_6, j_Intro_circleOf_29, b_Intro_circleOf_29, an_0, an_1, cl_0, cl_1, ne_0_1, ne_1_0, pp_15_0, sh_15, vi_0, vi_1, l0, l2, l3, sh_15, pp_15_0, sT0 ht, sT1 ht, sT2 ht, sT3 ht, sT4 ht, sT5 ht, sT6 ht, sT7 ht, sT8 ht, sT9 ht, pT1 ht, pT2 ht, pT3 ht, pT4 ht, pT5 ht, pT6 ht, pT7 ht, pT8 ht, pT9 ht, hn, c1]
    exact hq
  | succ m ih =>
    intro k s L hk hs l0 l2 l3 hq
    have c1 : ¬ nI n ≤ nI k := nI_ge (by omega) (by omega)
    rw [fo] at hq
    refine cp_run 40 (fun t => t == 6) ck_Intro_circleOf ?_
    simp only [cp_vc, cp_vs, cp_jm, cp_ent_en, cp_en_int, cp_en_ref, cp_en_ret, cp_en_long, cp_en_nil, cp_s1_at, cp_s2_at, cp_nl_int, cp_nl_ref, cp_nl_long, cp_nl_none, cp_pop_0, cp_pop_s, reduceIte, if_true, if_false, Bool.false_eq_true, Bool.true_eq_false, false_implies, implies_true, forall_const, true_implies, true_and, and_true, and_self, true_or, or_true, false_or, or_false, Value.category, List.length_cons, List.length_nil, Option.toList_some, Option.toList_none, List.cons_append, List.nil_append, List.append_nil, Prod.mk.injEq, Nat.add_zero, Nat.zero_add, Nat.reduceAdd, Nat.reduceSub, Nat.reduceEqDiff, Nat.reduceLeDiff, Nat.reduceLT, Nat.le_refl, beq_self_eq_true, Nat.reduceBEq, ne_eq, not_true_eq_false, not_false_eq_true, Int32.reduceAdd, Int32.reduceSub, Int32.reduceMul, Int32.reduceLE, Int32.reduceLT, Int32.reduceToNatClampNeg, b01_0, b01_1, ne_2_0, ne_3_0, ne_4_0, ne_5_0, ne_6_0, ne_m1_0, ne_m2_0, b01_01, b01_n, lt_m2, lt_m1, le_m2, le_m1, Classical.not_not, j_Intro_circleOf_0, b_Intro_circleOf_0, j_Intro_circleOf_6, b_Intro_circleOf_6, j_Intro_circleOf_29, b_Intro_circleOf_29, an_0, an_1, cl_0, cl_1, ne_0_1, ne_1_0, pp_15_0, sh_15, vi_0, vi_1, l0, l2, l3, sh_15, pp_15_0, sT0 ht, sT1 ht, sT2 ht, sT3 ht, sT4 ht, sT5 ht, sT6 ht, sT7 ht, sT8 ht, sT9 ht, pT1 ht, pT2 ht, pT3 ht, pT4 ht, pT5 ht, pT6 ht, pT7 ht, pT8 ht, pT9 ht, hn, c1]
    refine c_Intro_widen hc hK hs ?_
    simp only [cp_kk, cp_vc, cp_vs, cp_jm, cp_ent_en, cp_en_int, cp_en_ref, cp_en_ret, cp_en_long, cp_en_nil, cp_s1_at, cp_s2_at, cp_nl_int, cp_nl_ref, cp_nl_long, cp_nl_none, cp_pop_0, cp_pop_s, reduceIte, if_true, if_false, Bool.false_eq_true, Bool.true_eq_false, false_implies, implies_true, forall_const, true_implies, true_and, and_true, and_self, true_or, or_true, false_or, or_false, Value.category, List.length_cons, List.length_nil, Option.toList_some, Option.toList_none, List.cons_append, List.nil_append, List.append_nil, Prod.mk.injEq, Nat.add_zero, Nat.zero_add, Nat.reduceAdd, Nat.reduceSub, Nat.reduceEqDiff, Nat.reduceLeDiff, Nat.reduceLT, Nat.le_refl, beq_self_eq_true, Nat.reduceBEq, ne_eq, not_true_eq_false, not_false_eq_true, Int32.reduceAdd, Int32.reduceSub, Int32.reduceMul, Int32.reduceLE, Int32.reduceLT, Int32.reduceToNatClampNeg, b01_0, b01_1, ne_2_0, ne_3_0, ne_4_0, ne_5_0, ne_6_0, ne_m1_0, ne_m2_0, b01_01, b01_n, lt_m2, lt_m1, le_m2, le_m1, Classical.not_not, Bool.or_false, Bool.false_or, Bool.true_or, Bool.or_true, j_Intro_circleOf_0, b_Intro_circleOf_0, j_Intro_circleOf_6, b_Intro_circleOf_6, j_Intro_circleOf_29, b_Intro_circleOf_29, an_0, an_1, cl_0, cl_1, ne_0_1, ne_1_0, pp_15_0, sh_15, vi_0, vi_1, l0, l2, l3, nI_1]
    refine ih (k + 1) _ _ (by omega) (wdn_lt (fun b hb => (hK b hb).2.1) hs) ?_ ?_ ?_ hq <;> simp [cp_s1_at, cp_nl_int, cp_nl_ref, l0]
theorem c_Intro_circleOf {K F : Nat → Nat} {b : Nat} (hc : cT I t n) (hK : cKF I n K F) (hb : b < 6) (h : Q (some (.int (nI (cci K n b)))) SH I J (PP t u r x)) : MW g false (d + 2) 0 0 m_Intro_circleOf [.ref 15, .int (nI b)] SH I J (PP t u r x) Q := by
  refine MW.of ok_Intro_circleOf (Nat.le_of_ble_eq_true rfl) ?_
  refine cp_run 20 (fun t => t == 6) ck_Intro_circleOf ?_
  simp only [cp_vc, cp_vs, cp_jm, cp_ent_en, cp_en_int, cp_en_ref, cp_en_ret, cp_en_long, cp_en_nil, cp_s1_at, cp_s2_at, cp_nl_int, cp_nl_ref, cp_nl_long, cp_nl_none, cp_pop_0, cp_pop_s, reduceIte, if_true, if_false, Bool.false_eq_true, Bool.true_eq_false, false_implies, implies_true, forall_const, true_implies, true_and, and_true, and_self, true_or, or_true, false_or, or_false, Value.category, List.length_cons, List.length_nil, Option.toList_some, Option.toList_none, List.cons_append, List.nil_append, List.append_nil, Prod.mk.injEq, Nat.add_zero, Nat.zero_add, Nat.reduceAdd, Nat.reduceSub, Nat.reduceEqDiff, Nat.reduceLeDiff, Nat.reduceLT, Nat.le_refl, beq_self_eq_true, Nat.reduceBEq, ne_eq, not_true_eq_false, not_false_eq_true, Int32.reduceAdd, Int32.reduceSub, Int32.reduceMul, Int32.reduceLE, Int32.reduceLT, Int32.reduceToNatClampNeg, b01_0, b01_1, ne_2_0, ne_3_0, ne_4_0, ne_5_0, ne_6_0, ne_m1_0, ne_m2_0, b01_01, b01_n, lt_m2, lt_m1, le_m2, le_m1, Classical.not_not, j_Intro_circleOf_0, b_Intro_circleOf_0, j_Intro_circleOf_6, b_Intro_circleOf_6, j_Intro_circleOf_29, b_Intro_circleOf_29, an_0, an_1, cl_0, cl_1, ne_0_1, ne_1_0, pp_15_0, sh_15, vi_0, vi_1, sh1 (show b < 8 by omega)]
  refine lp_Intro_circleOf hc hK n 0 (2 ^ b) _ (by omega) (pow_lt64 hb) ?_ ?_ ?_ h <;> simp [cp_s1_at, cp_ent_en, cp_en_ref, cp_en_int, cp_nl_ref, cp_nl_int, nI_0]
def sp_cic (C : Nat → Nat) : Nat → Nat × Nat → Nat × Nat := fun b p => if p.2.testBit b = true then p else (p.1 + 1, p.2 ||| C b)
theorem lp_Intro_circles {K F : Nat → Nat} (hc : cT I t n) (hK : cKF I n K F) : ∀ (m b : Nat) (p : Nat × Nat) (L : cp_Lo), b + m = n → p.2 < 64 → L 0 = some (.ref 40) → L 1 = some (.ref 15) → L 2 = some (.int (nI p.2)) → L 3 = some (.int (nI p.1)) → L 4 = some (.int (nI b)) →
    Q (some (.int (nI (fo (sp_cic (cci K n)) m b p).1))) SH I J (PP t u r x) → RW g false (d + 3) 0 0 m_Intro_countCircles 0 0 7 L [] SH I J (PP t u r x) Q := by
  obtain ⟨ht, hn6, hn, he⟩ := id hc
  intro m
  induction m with
  | zero =>
    intro b p L hb hp l0 l1 l2 l3 l4 hq
    have c1 : nI n ≤ nI b := nI_le (by omega) (by omega)
    refine cp_run 20 (fun t => t == 7) ck_Intro_countCircles ?_
    simp only [cp_vc, cp_vs, cp_jm, cp_ent_en, cp_en_int, cp_en_ref, cp_en_ret, cp_en_long, cp_en_nil, cp_s1_at, cp_s2_at, cp_nl_int, cp_nl_ref, cp_nl_long, cp_nl_none, cp_pop_0, cp_pop_s, reduceIte, if_true, if_false, Bool.false_eq_true, Bool.true_eq_false, false_implies, implies_true, forall_const, true_implies, true_and, and_true, and_self, true_or, or_true, false_or, or_false, Value.category, List.length_cons, List.length_nil, Option.toList_some, Option.toList_none, List.cons_append, List.nil_append, List.append_nil, Prod.mk.injEq, Nat.add_zero, Nat.zero_add, Nat.reduceAdd, Nat.reduceSub, Nat.reduceEqDiff, Nat.reduceLeDiff, Nat.reduceLT, Nat.le_refl, beq_self_eq_true, Nat.reduceBEq, ne_eq, not_true_eq_false, not_false_eq_true, Int32.reduceAdd, Int32.reduceSub, Int32.reduceMul, Int32.reduceLE, Int32.reduceLT, Int32.reduceToNatClampNeg, b01_0, b01_1, ne_2_0, ne_3_0, ne_4_0, ne_5_0, ne_6_0, ne_m1_0, ne_m2_0, b01_01, b01_n, lt_m2, lt_m1, le_m2, le_m1, Classical.not_not, j_Intro_countCircles_0, b_Intro_countCircles_0, j_Intro_countCircles_7, b_Intro_countCircles_7, j_Intro_countCircles_40, b_Intro_countCircles_40, j_Intro_countCircles_46, b_Intro_countCircles_46, an_0, an_1, cl_0, cl_1, ne_0_1, ne_1_0, pp_15_0, sh_15, vi_0, vi_1, l0, l1, l2, l3, l4, sh_15, pp_15_0, sT0 ht, sT1 ht, sT2 ht, sT3 ht, sT4 ht, sT5 ht, sT6 ht, sT7 ht, sT8 ht, sT9 ht, pT1 ht, pT2 ht, pT3 ht, pT4 ht, pT5 ht, pT6 ht, pT7 ht, pT8 ht, pT9 ht, hn, c1]
    exact hq
  | succ m ih =>
    intro b p L hb hp l0 l1 l2 l3 l4 hq
    have c1 : ¬ nI n ≤ nI b := nI_ge (by omega) (by omega)
    rw [fo] at hq
    refine cp_run 40 (fun t => t == 7) ck_Intro_countCircles ?_
    simp only [cp_vc, cp_vs, cp_jm, cp_ent_en, cp_en_int, cp_en_ref, cp_en_ret, cp_en_long, cp_en_nil, cp_s1_at, cp_s2_at, cp_nl_int, cp_nl_ref, cp_nl_long, cp_nl_none, cp_pop_0, cp_pop_s, reduceIte, if_true, if_false, Bool.false_eq_true, Bool.true_eq_false, false_implies, implies_true, forall_const, true_implies, true_and, and_true, and_self, true_or, or_true, false_or, or_false, Value.category, List.length_cons, List.length_nil, Option.toList_some, Option.toList_none, List.cons_append, List.nil_append, List.append_nil, Prod.mk.injEq, Nat.add_zero, Nat.zero_add, Nat.reduceAdd, Nat.reduceSub, Nat.reduceEqDiff, Nat.reduceLeDiff, Nat.reduceLT, Nat.le_refl, beq_self_eq_true, Nat.reduceBEq, ne_eq, not_true_eq_false, not_false_eq_true, Int32.reduceAdd, Int32.reduceSub, Int32.reduceMul, Int32.reduceLE, Int32.reduceLT, Int32.reduceToNatClampNeg, b01_0, b01_1, ne_2_0, ne_3_0, ne_4_0, ne_5_0, ne_6_0, ne_m1_0, ne_m2_0, b01_01, b01_n, lt_m2, lt_m1, le_m2, le_m1, Classical.not_not, j_Intro_countCircles_0, b_Intro_countCircles_0, j_Intro_countCircles_7, b_Intro_countCircles_7, j_Intro_countCircles_40, b_Intro_countCircles_40, j_Intro_countCircles_46, b_Intro_countCircles_46, an_0, an_1, cl_0, cl_1, ne_0_1, ne_1_0, pp_15_0, sh_15, vi_0, vi_1, l0, l1, l2, l3, l4, sh_15, pp_15_0, sT0 ht, sT1 ht, sT2 ht, sT3 ht, sT4 ht, sT5 ht, sT6 ht, sT7 ht, sT8 ht, sT9 ht, pT1 ht, pT2 ht, pT3 ht, pT4 ht, pT5 ht, pT6 ht, pT7 ht, pT8 ht, pT9 ht, hn, c1, hb_0 hp (show b < 8 by omega), nI_1]
    refine ⟨fun c => ?_, fun c => ?_⟩
    · have e : sp_cic (cci K n) b p = p := by
        unfold sp_cic
        rw [if_pos (by simpa using c)]
      rw [e] at hq
      refine ih (b + 1) p _ (by omega) hp ?_ ?_ ?_ ?_ ?_ hq <;> simp [cp_s1_at, cp_nl_int, cp_nl_ref, l0, l1, l2, l3]
    · have e : sp_cic (cci K n) b p = (p.1 + 1, p.2 ||| cci K n b) := by
        unfold sp_cic
        rw [if_neg (by simp [c])]
      rw [e] at hq
      have hcl := cci_lt hK (show b < 6 by omega)
      refine c_Intro_circleOf hc hK (by omega) ?_
      simp only [cp_kk, cp_vc, cp_vs, cp_jm, cp_ent_en, cp_en_int, cp_en_ref, cp_en_ret, cp_en_long, cp_en_nil, cp_s1_at, cp_s2_at, cp_nl_int, cp_nl_ref, cp_nl_long, cp_nl_none, cp_pop_0, cp_pop_s, reduceIte, if_true, if_false, Bool.false_eq_true, Bool.true_eq_false, false_implies, implies_true, forall_const, true_implies, true_and, and_true, and_self, true_or, or_true, false_or, or_false, Value.category, List.length_cons, List.length_nil, Option.toList_some, Option.toList_none, List.cons_append, List.nil_append, List.append_nil, Prod.mk.injEq, Nat.add_zero, Nat.zero_add, Nat.reduceAdd, Nat.reduceSub, Nat.reduceEqDiff, Nat.reduceLeDiff, Nat.reduceLT, Nat.le_refl, beq_self_eq_true, Nat.reduceBEq, ne_eq, not_true_eq_false, not_false_eq_true, Int32.reduceAdd, Int32.reduceSub, Int32.reduceMul, Int32.reduceLE, Int32.reduceLT, Int32.reduceToNatClampNeg, b01_0, b01_1, ne_2_0, ne_3_0, ne_4_0, ne_5_0, ne_6_0, ne_m1_0, ne_m2_0, b01_01, b01_n, lt_m2, lt_m1, le_m2, le_m1, Classical.not_not, Bool.or_false, Bool.false_or, Bool.true_or, Bool.or_true, j_Intro_countCircles_0, b_Intro_countCircles_0, j_Intro_countCircles_7, b_Intro_countCircles_7, j_Intro_countCircles_40, b_Intro_countCircles_40, j_Intro_countCircles_46, b_Intro_countCircles_46, an_0, an_1, cl_0, cl_1, ne_0_1, ne_1_0, pp_15_0, sh_15, vi_0, vi_1, l0, l1, l2, l3, l4, or_nI hp hcl, nI_1]
      refine ih (b + 1) (p.1 + 1, p.2 ||| cci K n b) _ (by omega) (or_lt64 hp hcl) ?_ ?_ ?_ ?_ ?_ hq <;> simp [cp_s1_at, cp_nl_int, cp_nl_ref, l0, l1]
theorem c_Intro_circles {K F : Nat → Nat} (hc : cT I t n) (hK : cKF I n K F) (h : Q (some (.int (nI (fo (sp_cic (cci K n)) n 0 (0, 0)).1))) SH I J (PP t u r x)) : MW g false (d + 3) 0 0 m_Intro_countCircles [.ref 40, .ref 15] SH I J (PP t u r x) Q := by
  refine MW.of ok_Intro_countCircles (Nat.le_of_ble_eq_true rfl) ?_
  refine cp_run 20 (fun t => t == 7) ck_Intro_countCircles ?_
  simp only [cp_vc, cp_vs, cp_jm, cp_ent_en, cp_en_int, cp_en_ref, cp_en_ret, cp_en_long, cp_en_nil, cp_s1_at, cp_s2_at, cp_nl_int, cp_nl_ref, cp_nl_long, cp_nl_none, cp_pop_0, cp_pop_s, reduceIte, if_true, if_false, Bool.false_eq_true, Bool.true_eq_false, false_implies, implies_true, forall_const, true_implies, true_and, and_true, and_self, true_or, or_true, false_or, or_false, Value.category, List.length_cons, List.length_nil, Option.toList_some, Option.toList_none, List.cons_append, List.nil_append, List.append_nil, Prod.mk.injEq, Nat.add_zero, Nat.zero_add, Nat.reduceAdd, Nat.reduceSub, Nat.reduceEqDiff, Nat.reduceLeDiff, Nat.reduceLT, Nat.le_refl, beq_self_eq_true, Nat.reduceBEq, ne_eq, not_true_eq_false, not_false_eq_true, Int32.reduceAdd, Int32.reduceSub, Int32.reduceMul, Int32.reduceLE, Int32.reduceLT, Int32.reduceToNatClampNeg, b01_0, b01_1, ne_2_0, ne_3_0, ne_4_0, ne_5_0, ne_6_0, ne_m1_0, ne_m2_0, b01_01, b01_n, lt_m2, lt_m1, le_m2, le_m1, Classical.not_not, j_Intro_countCircles_0, b_Intro_countCircles_0, j_Intro_countCircles_7, b_Intro_countCircles_7, j_Intro_countCircles_40, b_Intro_countCircles_40, j_Intro_countCircles_46, b_Intro_countCircles_46, an_0, an_1, cl_0, cl_1, ne_0_1, ne_1_0, pp_15_0, sh_15, vi_0, vi_1]
  refine lp_Intro_circles hc hK n 0 (0, 0) _ (by omega) (by simp) ?_ ?_ ?_ ?_ ?_ h <;> simp [cp_s1_at, cp_ent_en, cp_en_ref, cp_en_int, cp_nl_ref, cp_nl_int, nI_0]
def sp_btc (W : Nat → Nat) (o : Nat) : Nat → Nat → Nat → Option Nat
  | 0, _, _ => none
  | m + 1, k, s => if (W s).testBit o = true then some k else sp_btc W o m (k + 1) (W s)
theorem lp_Intro_between {K F : Nat → Nat} {o : Nat} (hc : cT I t n) (hK : cKF I n K F) (ho : o < 6) : ∀ (m k s : Nat) (L : cp_Lo), k + m = n → s < 64 → L 0 = some (.ref 40) → L 1 = some (.ref 15) → L 3 = some (.int (nI o)) → L 4 = some (.int (nI s)) → L 5 = some (.int (nI k)) →
    Q (some (.int (oI (sp_btc (wdn K n) o m k s)))) SH I J (PP t u r x) → RW g false (d + 2) 0 0 m_Intro_othersBetween 0 0 8 L [] SH I J (PP t u r x) Q := by
  obtain ⟨ht, hn6, hn, he⟩ := id hc
  intro m
  induction m with
  | zero =>
    intro k s L hk hs l0 l1 l3 l4 l5 hq
    have c1 : nI n ≤ nI k := nI_le (by omega) (by omega)
    refine cp_run 20 (fun t => t == 8) ck_Intro_othersBetween ?_
    simp only [cp_vc, cp_vs, cp_jm, cp_ent_en, cp_en_int, cp_en_ref, cp_en_ret, cp_en_long, cp_en_nil, cp_s1_at, cp_s2_at, cp_nl_int, cp_nl_ref, cp_nl_long, cp_nl_none, cp_pop_0, cp_pop_s, reduceIte, if_true, if_false, Bool.false_eq_true, Bool.true_eq_false, false_implies, implies_true, forall_const, true_implies, true_and, and_true, and_self, true_or, or_true, false_or, or_false, Value.category, List.length_cons, List.length_nil, Option.toList_some, Option.toList_none, List.cons_append, List.nil_append, List.append_nil, Prod.mk.injEq, Nat.add_zero, Nat.zero_add, Nat.reduceAdd, Nat.reduceSub, Nat.reduceEqDiff, Nat.reduceLeDiff, Nat.reduceLT, Nat.le_refl, beq_self_eq_true, Nat.reduceBEq, ne_eq, not_true_eq_false, not_false_eq_true, Int32.reduceAdd, Int32.reduceSub, Int32.reduceMul, Int32.reduceLE, Int32.reduceLT, Int32.reduceToNatClampNeg, b01_0, b01_1, ne_2_0, ne_3_0, ne_4_0, ne_5_0, ne_6_0, ne_m1_0, ne_m2_0, b01_01, b01_n, lt_m2, lt_m1, le_m2, le_m1, Classical.not_not, j_Intro_othersBetween_0, b_Intro_othersBetween_0, j_Intro_othersBetween_8, b_Intro_othersBetween_8, j_Intro_othersBetween_40, b_Intro_othersBetween_40, j_Intro_othersBetween_46, b_Intro_othersBetween_46, an_0, an_1, cl_0, cl_1, ne_0_1, ne_0_m2, ne_1_0, ne_1_m2, ne_m2_0, ne_m2_1, pp_15_0, sh_15, vi_0, vi_1, l0, l1, l3, l4, l5, sh_15, pp_15_0, sT0 ht, sT1 ht, sT2 ht, sT3 ht, sT4 ht, sT5 ht, sT6 ht, sT7 ht, sT8 ht, sT9 ht, pT1 ht, pT2 ht, pT3 ht, pT4 ht, pT5 ht, pT6 ht, pT7 ht, pT8 ht, pT9 ht, hn, c1]
    exact hq
  | succ m ih =>
    intro k s L hk hs l0 l1 l3 l4 l5 hq
    have c1 : ¬ nI n ≤ nI k := nI_ge (by omega) (by omega)
    have hw := wdn_lt (n := n) (K := K) (fun b hb => (hK b hb).2.1) hs
    rw [sp_btc] at hq
    refine cp_run 40 (fun t => t == 8) ck_Intro_othersBetween ?_
    simp only [cp_vc, cp_vs, cp_jm, cp_ent_en, cp_en_int, cp_en_ref, cp_en_ret, cp_en_long, cp_en_nil, cp_s1_at, cp_s2_at, cp_nl_int, cp_nl_ref, cp_nl_long, cp_nl_none, cp_pop_0, cp_pop_s, reduceIte, if_true, if_false, Bool.false_eq_true, Bool.true_eq_false, false_implies, implies_true, forall_const, true_implies, true_and, and_true, and_self, true_or, or_true, false_or, or_false, Value.category, List.length_cons, List.length_nil, Option.toList_some, Option.toList_none, List.cons_append, List.nil_append, List.append_nil, Prod.mk.injEq, Nat.add_zero, Nat.zero_add, Nat.reduceAdd, Nat.reduceSub, Nat.reduceEqDiff, Nat.reduceLeDiff, Nat.reduceLT, Nat.le_refl, beq_self_eq_true, Nat.reduceBEq, ne_eq, not_true_eq_false, not_false_eq_true, Int32.reduceAdd, Int32.reduceSub, Int32.reduceMul, Int32.reduceLE, Int32.reduceLT, Int32.reduceToNatClampNeg, b01_0, b01_1, ne_2_0, ne_3_0, ne_4_0, ne_5_0, ne_6_0, ne_m1_0, ne_m2_0, b01_01, b01_n, lt_m2, lt_m1, le_m2, le_m1, Classical.not_not, j_Intro_othersBetween_0, b_Intro_othersBetween_0, j_Intro_othersBetween_8, b_Intro_othersBetween_8, j_Intro_othersBetween_40, b_Intro_othersBetween_40, j_Intro_othersBetween_46, b_Intro_othersBetween_46, an_0, an_1, cl_0, cl_1, ne_0_1, ne_0_m2, ne_1_0, ne_1_m2, ne_m2_0, ne_m2_1, pp_15_0, sh_15, vi_0, vi_1, l0, l1, l3, l4, l5, sh_15, pp_15_0, sT0 ht, sT1 ht, sT2 ht, sT3 ht, sT4 ht, sT5 ht, sT6 ht, sT7 ht, sT8 ht, sT9 ht, pT1 ht, pT2 ht, pT3 ht, pT4 ht, pT5 ht, pT6 ht, pT7 ht, pT8 ht, pT9 ht, hn, c1]
    refine c_Intro_widen hc hK hs ?_
    simp only [cp_kk, cp_vc, cp_vs, cp_jm, cp_ent_en, cp_en_int, cp_en_ref, cp_en_ret, cp_en_long, cp_en_nil, cp_s1_at, cp_s2_at, cp_nl_int, cp_nl_ref, cp_nl_long, cp_nl_none, cp_pop_0, cp_pop_s, reduceIte, if_true, if_false, Bool.false_eq_true, Bool.true_eq_false, false_implies, implies_true, forall_const, true_implies, true_and, and_true, and_self, true_or, or_true, false_or, or_false, Value.category, List.length_cons, List.length_nil, Option.toList_some, Option.toList_none, List.cons_append, List.nil_append, List.append_nil, Prod.mk.injEq, Nat.add_zero, Nat.zero_add, Nat.reduceAdd, Nat.reduceSub, Nat.reduceEqDiff, Nat.reduceLeDiff, Nat.reduceLT, Nat.le_refl, beq_self_eq_true, Nat.reduceBEq, ne_eq, not_true_eq_false, not_false_eq_true, Int32.reduceAdd, Int32.reduceSub, Int32.reduceMul, Int32.reduceLE, Int32.reduceLT, Int32.reduceToNatClampNeg, b01_0, b01_1, ne_2_0, ne_3_0, ne_4_0, ne_5_0, ne_6_0, ne_m1_0, ne_m2_0, b01_01, b01_n, lt_m2, lt_m1, le_m2, le_m1, Classical.not_not, Bool.or_false, Bool.false_or, Bool.true_or, Bool.or_true, j_Intro_othersBetween_0, b_Intro_othersBetween_0, j_Intro_othersBetween_8, b_Intro_othersBetween_8, j_Intro_othersBetween_40, b_Intro_othersBetween_40, j_Intro_othersBetween_46, b_Intro_othersBetween_46, an_0, an_1, cl_0, cl_1, ne_0_1, ne_0_m2, ne_1_0, ne_1_m2, ne_m2_0, ne_m2_1, pp_15_0, sh_15, vi_0, vi_1, l0, l1, l3, l4, l5, hb_0 hw (show o < 8 by omega), nI_1]
    refine ⟨fun c => ?_, fun c => ?_⟩
    · rw [if_neg (by simp [c])] at hq
      refine ih (k + 1) _ _ (by omega) hw ?_ ?_ ?_ ?_ ?_ hq <;> simp [cp_s1_at, cp_nl_int, cp_nl_ref, l0, l1, l3]
    · rw [if_pos (by simpa using c)] at hq
      exact hq
theorem c_Intro_between {K F : Nat → Nat} {b o : Nat} (hc : cT I t n) (hK : cKF I n K F) (hb : b < 6) (ho : o < 6) (h : Q (some (.int (oI (sp_btc (wdn K n) o n 0 (2 ^ b))))) SH I J (PP t u r x)) : MW g false (d + 2) 0 0 m_Intro_othersBetween [.ref 40, .ref 15, .int (nI b), .int (nI o)] SH I J (PP t u r x) Q := by
  refine MW.of ok_Intro_othersBetween (Nat.le_of_ble_eq_true rfl) ?_
  refine cp_run 20 (fun t => t == 8) ck_Intro_othersBetween ?_
  simp only [cp_vc, cp_vs, cp_jm, cp_ent_en, cp_en_int, cp_en_ref, cp_en_ret, cp_en_long, cp_en_nil, cp_s1_at, cp_s2_at, cp_nl_int, cp_nl_ref, cp_nl_long, cp_nl_none, cp_pop_0, cp_pop_s, reduceIte, if_true, if_false, Bool.false_eq_true, Bool.true_eq_false, false_implies, implies_true, forall_const, true_implies, true_and, and_true, and_self, true_or, or_true, false_or, or_false, Value.category, List.length_cons, List.length_nil, Option.toList_some, Option.toList_none, List.cons_append, List.nil_append, List.append_nil, Prod.mk.injEq, Nat.add_zero, Nat.zero_add, Nat.reduceAdd, Nat.reduceSub, Nat.reduceEqDiff, Nat.reduceLeDiff, Nat.reduceLT, Nat.le_refl, beq_self_eq_true, Nat.reduceBEq, ne_eq, not_true_eq_false, not_false_eq_true, Int32.reduceAdd, Int32.reduceSub, Int32.reduceMul, Int32.reduceLE, Int32.reduceLT, Int32.reduceToNatClampNeg, b01_0, b01_1, ne_2_0, ne_3_0, ne_4_0, ne_5_0, ne_6_0, ne_m1_0, ne_m2_0, b01_01, b01_n, lt_m2, lt_m1, le_m2, le_m1, Classical.not_not, j_Intro_othersBetween_0, b_Intro_othersBetween_0, j_Intro_othersBetween_8, b_Intro_othersBetween_8, j_Intro_othersBetween_40, b_Intro_othersBetween_40, j_Intro_othersBetween_46, b_Intro_othersBetween_46, an_0, an_1, cl_0, cl_1, ne_0_1, ne_0_m2, ne_1_0, ne_1_m2, ne_m2_0, ne_m2_1, pp_15_0, sh_15, vi_0, vi_1, sh1 (show b < 8 by omega)]
  refine lp_Intro_between hc hK ho n 0 (2 ^ b) _ (by omega) (pow_lt64 hb) ?_ ?_ ?_ ?_ ?_ h <;> simp [cp_s1_at, cp_ent_en, cp_en_ref, cp_en_int, cp_nl_ref, cp_nl_int, nI_0]
/-- can two be introduced -/
def cmt (K F : Nat → Nat) (a b : Nat) : Bool := !(K a ||| F a).testBit b && !decide (K a &&& K b = 0)
theorem lp_Intro_cp20 {K F : Nat → Nat} {a : Nat} (hc : cT I t n) (hK : cKF I n K F) (ha : a < n) : ∀ (m b z : Nat) (L : cp_Lo), b + m = n → L 0 = some (.ref 40) → L 1 = some (.ref 15) → L 2 = some (.int (nI z)) → L 3 = some (.int (nI a)) → L 4 = some (.int (nI b)) →
    (∀ L' : cp_Lo, L' 0 = some (.ref 40) → L' 1 = some (.ref 15) → L' 2 = some (.int (nI (fo (sp_mt (cmt K F) a) m b z))) → L' 3 = some (.int (nI a)) → RW g false (d + 2) 0 0 m_Intro_countPossible 0 0 61 L' [] SH I J (PP t u r x) Q) → RW g false (d + 2) 0 0 m_Intro_countPossible 0 0 20 L [] SH I J (PP t u r x) Q := by
  obtain ⟨ht, hn6, hn, he⟩ := id hc
  intro m
  induction m with
  | zero =>
    intro b z L hb l0 l1 l2 l3 l4 hq
    have c1 : nI n ≤ nI b := nI_le (by omega) (by omega)
    refine cp_run 20 (fun t => t == 20 || t == 61) ck_Intro_countPossible ?_
    simp only [cp_vc, cp_vs, cp_jm, cp_ent_en, cp_en_int, cp_en_ref, cp_en_ret, cp_en_long, cp_en_nil, cp_s1_at, cp_s2_at, cp_nl_int, cp_nl_ref, cp_nl_long, cp_nl_none, cp_pop_0, cp_pop_s, reduceIte, if_true, if_false, Bool.false_eq_true, Bool.true_eq_false, false_implies, implies_true, forall_const, true_implies, true_and, and_true, and_self, true_or, or_true, false_or, or_false, Value.category, List.length_cons, List.length_nil, Option.toList_some, Option.toList_none, List.cons_append, List.nil_append, List.append_nil, Prod.mk.injEq, Nat.add_zero, Nat.zero_add, Nat.reduceAdd, Nat.reduceSub, Nat.reduceEqDiff, Nat.reduceLeDiff, Nat.reduceLT, Nat.le_refl, beq_self_eq_true, Nat.reduceBEq, ne_eq, not_true_eq_false, not_false_eq_true, Int32.reduceAdd, Int32.reduceSub, Int32.reduceMul, Int32.reduceLE, Int32.reduceLT, Int32.reduceToNatClampNeg, b01_0, b01_1, ne_2_0, ne_3_0, ne_4_0, ne_5_0, ne_6_0, ne_m1_0, ne_m2_0, b01_01, b01_n, lt_m2, lt_m1, le_m2, le_m1, Classical.not_not, Bool.or_false, Bool.false_or, Bool.true_or, Bool.or_true, j_Intro_countPossible_0, b_Intro_countPossible_0, j_Intro_countPossible_4, b_Intro_countPossible_4, j_Intro_countPossible_20, b_Intro_countPossible_20, j_Intro_countPossible_55, b_Intro_countPossible_55, j_Intro_countPossible_61, b_Intro_countPossible_61, j_Intro_countPossible_67, b_Intro_countPossible_67, an_0, an_1, cl_0, cl_1, ne_0_1, ne_1_0, pp_15_0, sh_15, vi_0, vi_1, l0, l1, l2, l3, l4, sh_15, pp_15_0, sT0 ht, sT1 ht, sT2 ht, sT3 ht, sT4 ht, sT5 ht, sT6 ht, sT7 ht, sT8 ht, sT9 ht, pT1 ht, pT2 ht, pT3 ht, pT4 ht, pT5 ht, pT6 ht, pT7 ht, pT8 ht, pT9 ht, hn, c1]
    exact hq L l0 l1 l2 l3
  | succ m ih =>
    intro b z L hb l0 l1 l2 l3 l4 hq
    have c1 : ¬ nI n ≤ nI b := nI_ge (by omega) (by omega)
    rw [fo] at hq
    have no : cmt K F a b = false → RW g false (d + 2) 0 0 m_Intro_countPossible 0 0 20 (cp_s1 L 4 (.int (nI (b + 1)))) [] SH I J (PP t u r x) Q := by
      intro e
      have e' : sp_mt (cmt K F) a b z = z := by simp [sp_mt, e]
      rw [e'] at hq
      refine ih (b + 1) z _ (by omega) ?_ ?_ ?_ ?_ ?_ hq <;> simp [cp_s1_at, cp_nl_int, cp_nl_ref, l0, l1, l2, l3]
    refine cp_run 40 (fun t => t == 20 || t == 61) ck_Intro_countPossible ?_
    simp only [cp_vc, cp_vs, cp_jm, cp_ent_en, cp_en_int, cp_en_ref, cp_en_ret, cp_en_long, cp_en_nil, cp_s1_at, cp_s2_at, cp_nl_int, cp_nl_ref, cp_nl_long, cp_nl_none, cp_pop_0, cp_pop_s, reduceIte, if_true, if_false, Bool.false_eq_true, Bool.true_eq_false, false_implies, implies_true, forall_const, true_implies, true_and, and_true, and_self, true_or, or_true, false_or, or_false, Value.category, List.length_cons, List.length_nil, Option.toList_some, Option.toList_none, List.cons_append, List.nil_append, List.append_nil, Prod.mk.injEq, Nat.add_zero, Nat.zero_add, Nat.reduceAdd, Nat.reduceSub, Nat.reduceEqDiff, Nat.reduceLeDiff, Nat.reduceLT, Nat.le_refl, beq_self_eq_true, Nat.reduceBEq, ne_eq, not_true_eq_false, not_false_eq_true, Int32.reduceAdd, Int32.reduceSub, Int32.reduceMul, Int32.reduceLE, Int32.reduceLT, Int32.reduceToNatClampNeg, b01_0, b01_1, ne_2_0, ne_3_0, ne_4_0, ne_5_0, ne_6_0, ne_m1_0, ne_m2_0, b01_01, b01_n, lt_m2, lt_m1, le_m2, le_m1, Classical.not_not, Bool.or_false, Bool.false_or, Bool.true_or, Bool.or_true, j_Intro_countPossible_0, b_Intro_countPossible_0, j_Intro_countPossible_4, b_Intro_countPossible_4, j_Intro_countPossible_20, b_Intro_countPossible_20, j_Intro_countPossible_55, b_Intro_countPossible_55, j_Intro_countPossible_61, b_Intro_countPossible_61, j_Intro_countPossible_67, b_Intro_countPossible_67, an_0, an_1, cl_0, cl_1, ne_0_1, ne_1_0, pp_15_0, sh_15, vi_0, vi_1, l0, l1, l2, l3, l4, sh_15, pp_15_0, sT0 ht, sT1 ht, sT2 ht, sT3 ht, sT4 ht, sT5 ht, sT6 ht, sT7 ht, sT8 ht, sT9 ht, pT1 ht, pT2 ht, pT3 ht, pT4 ht, pT5 ht, pT6 ht, pT7 ht, pT8 ht, pT9 ht, hn, c1]
    refine c_Bath_areStrangers hn6 hK ha (by omega) ?_
    simp only [cp_kk, cp_vc, cp_vs, cp_jm, cp_ent_en, cp_en_int, cp_en_ref, cp_en_ret, cp_en_long, cp_en_nil, cp_s1_at, cp_s2_at, cp_nl_int, cp_nl_ref, cp_nl_long, cp_nl_none, cp_pop_0, cp_pop_s, reduceIte, if_true, if_false, Bool.false_eq_true, Bool.true_eq_false, false_implies, implies_true, forall_const, true_implies, true_and, and_true, and_self, true_or, or_true, false_or, or_false, Value.category, List.length_cons, List.length_nil, Option.toList_some, Option.toList_none, List.cons_append, List.nil_append, List.append_nil, Prod.mk.injEq, Nat.add_zero, Nat.zero_add, Nat.reduceAdd, Nat.reduceSub, Nat.reduceEqDiff, Nat.reduceLeDiff, Nat.reduceLT, Nat.le_refl, beq_self_eq_true, Nat.reduceBEq, ne_eq, not_true_eq_false, not_false_eq_true, Int32.reduceAdd, Int32.reduceSub, Int32.reduceMul, Int32.reduceLE, Int32.reduceLT, Int32.reduceToNatClampNeg, b01_0, b01_1, ne_2_0, ne_3_0, ne_4_0, ne_5_0, ne_6_0, ne_m1_0, ne_m2_0, b01_01, b01_n, lt_m2, lt_m1, le_m2, le_m1, Classical.not_not, Bool.or_false, Bool.false_or, Bool.true_or, Bool.or_true, j_Intro_countPossible_0, b_Intro_countPossible_0, j_Intro_countPossible_4, b_Intro_countPossible_4, j_Intro_countPossible_20, b_Intro_countPossible_20, j_Intro_countPossible_55, b_Intro_countPossible_55, j_Intro_countPossible_61, b_Intro_countPossible_61, j_Intro_countPossible_67, b_Intro_countPossible_67, an_0, an_1, cl_0, cl_1, ne_0_1, ne_1_0, pp_15_0, sh_15, vi_0, vi_1, l0, l1, l2, l3, l4, sh_15, nI_1]
    refine ⟨fun c => no ?_, fun c => ?_⟩
    · have : (K a ||| F a).testBit b = true := by
        cases hh : (K a ||| F a).testBit b with
        | false => exact absurd hh c
        | true => rfl
      simp only [cmt, this, Bool.not_true, Bool.false_and]
    · refine c_Bath_haveFriend hn6 hK ha (by omega) ?_
      by_cases c2 : K a &&& K b = 0
      · rw [if_pos c2]
        simp only [cp_kk, cp_vc, cp_vs, cp_jm, cp_ent_en, cp_en_int, cp_en_ref, cp_en_ret, cp_en_long, cp_en_nil, cp_s1_at, cp_s2_at, cp_nl_int, cp_nl_ref, cp_nl_long, cp_nl_none, cp_pop_0, cp_pop_s, reduceIte, if_true, if_false, Bool.false_eq_true, Bool.true_eq_false, false_implies, implies_true, forall_const, true_implies, true_and, and_true, and_self, true_or, or_true, false_or, or_false, Value.category, List.length_cons, List.length_nil, Option.toList_some, Option.toList_none, List.cons_append, List.nil_append, List.append_nil, Prod.mk.injEq, Nat.add_zero, Nat.zero_add, Nat.reduceAdd, Nat.reduceSub, Nat.reduceEqDiff, Nat.reduceLeDiff, Nat.reduceLT, Nat.le_refl, beq_self_eq_true, Nat.reduceBEq, ne_eq, not_true_eq_false, not_false_eq_true, Int32.reduceAdd, Int32.reduceSub, Int32.reduceMul, Int32.reduceLE, Int32.reduceLT, Int32.reduceToNatClampNeg, b01_0, b01_1, ne_2_0, ne_3_0, ne_4_0, ne_5_0, ne_6_0, ne_m1_0, ne_m2_0, b01_01, b01_n, lt_m2, lt_m1, le_m2, le_m1, Classical.not_not, Bool.or_false, Bool.false_or, Bool.true_or, Bool.or_true, j_Intro_countPossible_0, b_Intro_countPossible_0, j_Intro_countPossible_4, b_Intro_countPossible_4, j_Intro_countPossible_20, b_Intro_countPossible_20, j_Intro_countPossible_55, b_Intro_countPossible_55, j_Intro_countPossible_61, b_Intro_countPossible_61, j_Intro_countPossible_67, b_Intro_countPossible_67, an_0, an_1, cl_0, cl_1, ne_0_1, ne_1_0, pp_15_0, sh_15, vi_0, vi_1, l0, l1, l2, l3, l4, nI_1]
        exact no (by simp [cmt, c2])
      · rw [if_neg c2]
        simp only [cp_kk, cp_vc, cp_vs, cp_jm, cp_ent_en, cp_en_int, cp_en_ref, cp_en_ret, cp_en_long, cp_en_nil, cp_s1_at, cp_s2_at, cp_nl_int, cp_nl_ref, cp_nl_long, cp_nl_none, cp_pop_0, cp_pop_s, reduceIte, if_true, if_false, Bool.false_eq_true, Bool.true_eq_false, false_implies, implies_true, forall_const, true_implies, true_and, and_true, and_self, true_or, or_true, false_or, or_false, Value.category, List.length_cons, List.length_nil, Option.toList_some, Option.toList_none, List.cons_append, List.nil_append, List.append_nil, Prod.mk.injEq, Nat.add_zero, Nat.zero_add, Nat.reduceAdd, Nat.reduceSub, Nat.reduceEqDiff, Nat.reduceLeDiff, Nat.reduceLT, Nat.le_refl, beq_self_eq_true, Nat.reduceBEq, ne_eq, not_true_eq_false, not_false_eq_true, Int32.reduceAdd, Int32.reduceSub, Int32.reduceMul, Int32.reduceLE, Int32.reduceLT, Int32.reduceToNatClampNeg, b01_0, b01_1, ne_2_0, ne_3_0, ne_4_0, ne_5_0, ne_6_0, ne_m1_0, ne_m2_0, b01_01, b01_n, lt_m2, lt_m1, le_m2, le_m1, Classical.not_not, Bool.or_false, Bool.false_or, Bool.true_or, Bool.or_true, j_Intro_countPossible_0, b_Intro_countPossible_0, j_Intro_countPossible_4, b_Intro_countPossible_4, j_Intro_countPossible_20, b_Intro_countPossible_20, j_Intro_countPossible_55, b_Intro_countPossible_55, j_Intro_countPossible_61, b_Intro_countPossible_61, j_Intro_countPossible_67, b_Intro_countPossible_67, an_0, an_1, cl_0, cl_1, ne_0_1, ne_1_0, pp_15_0, sh_15, vi_0, vi_1, l0, l1, l2, l3, l4, nI_1]
        have e' : sp_mt (cmt K F) a b z = z + 1 := by simp only [sp_mt, cmt, c, c2, Bool.not_false, decide_false, Bool.and_self, if_true]
        rw [e'] at hq
        refine ih (b + 1) (z + 1) _ (by omega) ?_ ?_ ?_ ?_ ?_ hq <;> simp [cp_s1_at, cp_nl_int, cp_nl_ref, l0, l1, l3]
theorem lp_Intro_cp4 {K F : Nat → Nat} (hc : cT I t n) (hK : cKF I n K F) : ∀ (m a z : Nat) (L : cp_Lo), a + m = n → L 0 = some (.ref 40) → L 1 = some (.ref 15) → L 2 = some (.int (nI z)) → L 3 = some (.int (nI a)) →
    Q (some (.int (nI (fo (fun a z => fo (sp_mt (cmt K F) a) (n - (a + 1)) (a + 1) z) m a z)))) SH I J (PP t u r x) → RW g false (d + 2) 0 0 m_Intro_countPossible 0 0 4 L [] SH I J (PP t u r x) Q := by
  obtain ⟨ht, hn6, hn, he⟩ := id hc
  intro m
  induction m with
  | zero =>
    intro a z L ha l0 l1 l2 l3 hq
    have c1 : nI n ≤ nI a := nI_le (by omega) (by omega)
    refine cp_run 20 (fun t => t == 4) ck_Intro_countPossible ?_
    simp only [cp_vc, cp_vs, cp_jm, cp_ent_en, cp_en_int, cp_en_ref, cp_en_ret, cp_en_long, cp_en_nil, cp_s1_at, cp_s2_at, cp_nl_int, cp_nl_ref, cp_nl_long, cp_nl_none, cp_pop_0, cp_pop_s, reduceIte, if_true, if_false, Bool.false_eq_true, Bool.true_eq_false, false_implies, implies_true, forall_const, true_implies, true_and, and_true, and_self, true_or, or_true, false_or, or_false, Value.category, List.length_cons, List.length_nil, Option.toList_some, Option.toList_none, List.cons_append, List.nil_append, List.append_nil, Prod.mk.injEq, Nat.add_zero, Nat.zero_add, Nat.reduceAdd, Nat.reduceSub, Nat.reduceEqDiff, Nat.reduceLeDiff, Nat.reduceLT, Nat.le_refl, beq_self_eq_true, Nat.reduceBEq, ne_eq, not_true_eq_false, not_false_eq_true, Int32.reduceAdd, Int32.reduceSub, Int32.reduceMul, Int32.reduceLE, Int32.reduceLT, Int32.reduceToNatClampNeg, b01_0, b01_1, ne_2_0, ne_3_0, ne_4_0, ne_5_0, ne_6_0, ne_m1_0, ne_m2_0, b01_01, b01_n, lt_m2, lt_m1, le_m2, le_m1, Classical.not_not, j_Intro_countPossible_0, b_Intro_countPossible_0, j_Intro_countPossible_4, b_Intro_countPossible_4, j_Intro_countPossible_20, b_Intro_countPossible_20, j_Intro_countPossible_55, b_Intro_countPossible_55, j_Intro_countPossible_61, b_Intro_countPossible_61, j_Intro_countPossible_67, b_Intro_countPossible_67, an_0, an_1, cl_0, cl_1, ne_0_1, ne_1_0, pp_15_0, sh_15, vi_0, vi_1, l0, l1, l2, l3, sh_15, pp_15_0, sT0 ht, sT1 ht, sT2 ht, sT3 ht, sT4 ht, sT5 ht, sT6 ht, sT7 ht, sT8 ht, sT9 ht, pT1 ht, pT2 ht, pT3 ht, pT4 ht, pT5 ht, pT6 ht, pT7 ht, pT8 ht, pT9 ht, hn, c1]
    exact hq
  | succ m ih =>
    intro a z L ha l0 l1 l2 l3 hq
    have c1 : ¬ nI n ≤ nI a := nI_ge (by omega) (by omega)
    rw [fo] at hq
    refine cp_run 20 (fun t => t == 4 || t == 20) ck_Intro_countPossible ?_
    simp only [cp_vc, cp_vs, cp_jm, cp_ent_en, cp_en_int, cp_en_ref, cp_en_ret, cp_en_long, cp_en_nil, cp_s1_at, cp_s2_at, cp_nl_int, cp_nl_ref, cp_nl_long, cp_nl_none, cp_pop_0, cp_pop_s, reduceIte, if_true, if_false, Bool.false_eq_true, Bool.true_eq_false, false_implies, implies_true, forall_const, true_implies, true_and, and_true, and_self, true_or, or_true, false_or, or_false, Value.category, List.length_cons, List.length_nil, Option.toList_some, Option.toList_none, List.cons_append, List.nil_append, List.append_nil, Prod.mk.injEq, Nat.add_zero, Nat.zero_add, Nat.reduceAdd, Nat.reduceSub, Nat.reduceEqDiff, Nat.reduceLeDiff, Nat.reduceLT, Nat.le_refl, beq_self_eq_true, Nat.reduceBEq, ne_eq, not_true_eq_false, not_false_eq_true, Int32.reduceAdd, Int32.reduceSub, Int32.reduceMul, Int32.reduceLE, Int32.reduceLT, Int32.reduceToNatClampNeg, b01_0, b01_1, ne_2_0, ne_3_0, ne_4_0, ne_5_0, ne_6_0, ne_m1_0, ne_m2_0, b01_01, b01_n, lt_m2, lt_m1, le_m2, le_m1, Classical.not_not, Bool.or_false, Bool.false_or, Bool.true_or, Bool.or_true, j_Intro_countPossible_0, b_Intro_countPossible_0, j_Intro_countPossible_4, b_Intro_countPossible_4, j_Intro_countPossible_20, b_Intro_countPossible_20, j_Intro_countPossible_55, b_Intro_countPossible_55, j_Intro_countPossible_61, b_Intro_countPossible_61, j_Intro_countPossible_67, b_Intro_countPossible_67, an_0, an_1, cl_0, cl_1, ne_0_1, ne_1_0, pp_15_0, sh_15, vi_0, vi_1, l0, l1, l2, l3, sh_15, pp_15_0, sT0 ht, sT1 ht, sT2 ht, sT3 ht, sT4 ht, sT5 ht, sT6 ht, sT7 ht, sT8 ht, sT9 ht, pT1 ht, pT2 ht, pT3 ht, pT4 ht, pT5 ht, pT6 ht, pT7 ht, pT8 ht, pT9 ht, hn, c1, nI_1]
    refine lp_Intro_cp20 (a := a) hc hK (by omega) (n - (a + 1)) (a + 1) z _ (by omega) ?_ ?_ ?_ ?_ ?_ ?_
    · simp [cp_s1_at, cp_nl_int, cp_nl_ref, l0]
    · simp [cp_s1_at, cp_nl_int, cp_nl_ref, l1]
    · simp [cp_s1_at, cp_nl_int, cp_nl_ref, l2]
    · simp [cp_s1_at, cp_nl_int, cp_nl_ref, l3]
    · simp [cp_s1_at]
    · intro L' k0 k1 k2 k3
      refine cp_run 20 (fun t => t == 4) ck_Intro_countPossible ?_
      simp only [cp_vc, cp_vs, cp_jm, cp_ent_en, cp_en_int, cp_en_ref, cp_en_ret, cp_en_long, cp_en_nil, cp_s1_at, cp_s2_at, cp_nl_int, cp_nl_ref, cp_nl_long, cp_nl_none, cp_pop_0, cp_pop_s, reduceIte, if_true, if_false, Bool.false_eq_true, Bool.true_eq_false, false_implies, implies_true, forall_const, true_implies, true_and, and_true, and_self, true_or, or_true, false_or, or_false, Value.category, List.length_cons, List.length_nil, Option.toList_some, Option.toList_none, List.cons_append, List.nil_append, List.append_nil, Prod.mk.injEq, Nat.add_zero, Nat.zero_add, Nat.reduceAdd, Nat.reduceSub, Nat.reduceEqDiff, Nat.reduceLeDiff, Nat.reduceLT, Nat.le_refl, beq_self_eq_true, Nat.reduceBEq, ne_eq, not_true_eq_false, not_false_eq_true, Int32.reduceAdd, Int32.reduceSub, Int32.reduceMul, Int32.reduceLE, Int32.reduceLT, Int32.reduceToNatClampNeg, b01_0, b01_1, ne_2_0, ne_3_0, ne_4_0, ne_5_0, ne_6_0, ne_m1_0, ne_m2_0, b01_01, b01_n, lt_m2, lt_m1, le_m2, le_m1, Classical.not_not, j_Intro_countPossible_0, b_Intro_countPossible_0, j_Intro_countPossible_4, b_Intro_countPossible_4, j_Intro_countPossible_20, b_Intro_countPossible_20, j_Intro_countPossible_55, b_Intro_countPossible_55, j_Intro_countPossible_61, b_Intro_countPossible_61, j_Intro_countPossible_67, b_Intro_countPossible_67, an_0, an_1, cl_0, cl_1, ne_0_1, ne_1_0, pp_15_0, sh_15, vi_0, vi_1, k0, k1, k2, k3, nI_1]
      refine ih (a + 1) _ _ (by omega) ?_ ?_ ?_ ?_ hq <;> simp [cp_s1_at, cp_nl_int, cp_nl_ref, k0, k1, k2]
theorem c_Intro_countPossible {K F : Nat → Nat} (hc : cT I t n) (hK : cKF I n K F) (h : Q (some (.int (nI (fo (fun a z => fo (sp_mt (cmt K F) a) (n - (a + 1)) (a + 1) z) n 0 0)))) SH I J (PP t u r x)) : MW g false (d + 2) 0 0 m_Intro_countPossible [.ref 40, .ref 15] SH I J (PP t u r x) Q := by
  refine MW.of ok_Intro_countPossible (Nat.le_of_ble_eq_true rfl) ?_
  refine cp_run 20 (fun t => t == 4) ck_Intro_countPossible ?_
  simp only [cp_vc, cp_vs, cp_jm, cp_ent_en, cp_en_int, cp_en_ref, cp_en_ret, cp_en_long, cp_en_nil, cp_s1_at, cp_s2_at, cp_nl_int, cp_nl_ref, cp_nl_long, cp_nl_none, cp_pop_0, cp_pop_s, reduceIte, if_true, if_false, Bool.false_eq_true, Bool.true_eq_false, false_implies, implies_true, forall_const, true_implies, true_and, and_true, and_self, true_or, or_true, false_or, or_false, Value.category, List.length_cons, List.length_nil, Option.toList_some, Option.toList_none, List.cons_append, List.nil_append, List.append_nil, Prod.mk.injEq, Nat.add_zero, Nat.zero_add, Nat.reduceAdd, Nat.reduceSub, Nat.reduceEqDiff, Nat.reduceLeDiff, Nat.reduceLT, Nat.le_refl, beq_self_eq_true, Nat.reduceBEq, ne_eq, not_true_eq_false, not_false_eq_true, Int32.reduceAdd, Int32.reduceSub, Int32.reduceMul, Int32.reduceLE, Int32.reduceLT, Int32.reduceToNatClampNeg, b01_0, b01_1, ne_2_0, ne_3_0, ne_4_0, ne_5_0, ne_6_0, ne_m1_0, ne_m2_0, b01_01, b01_n, lt_m2, lt_m1, le_m2, le_m1, Classical.not_not, j_Intro_countPossible_0, b_Intro_countPossible_0, j_Intro_countPossible_4, b_Intro_countPossible_4, j_Intro_countPossible_20, b_Intro_countPossible_20, j_Intro_countPossible_55, b_Intro_countPossible_55, j_Intro_countPossible_61, b_Intro_countPossible_61, j_Intro_countPossible_67, b_Intro_countPossible_67, an_0, an_1, cl_0, cl_1, ne_0_1, ne_1_0, pp_15_0, sh_15, vi_0, vi_1]
  refine lp_Intro_cp4 hc hK n 0 0 _ (by omega) ?_ ?_ ?_ ?_ h <;> simp [cp_s1_at, cp_ent_en, cp_en_ref, cp_en_int, cp_nl_ref, cp_nl_int, nI_0]
end Intro1
