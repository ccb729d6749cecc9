section Mod24
variable {g : cp_G} {d : Nat} {sh : cp_H} {I M : cp_I} {J : cp_J} {P : cp_P} {Q : cp_QT} {t u r x : Nat} {T : Nat → Nat} {n p : Nat} {s : pS}
/-! the reference's reader: what it leaves -/
def rK (I M : cp_I) : Prop := (∀ a j, ¬ (a = 44 ∨ a = 46 ∨ a = 48) → M a j = I a j) ∧ ∀ j, ¬ ((4 ≤ j ∧ j ≤ 10) ∨ j = 13) → M 44 j = I 44 j
def nmO (N : List (List Nat)) (b : Nat) : List Nat := N.getD b []
def rFr (F : Nat → Int32) (N : List (List Nat)) (M : cp_I) : Prop := (∀ j, j < 84 → M 48 j = F j) ∧ N.length ≤ 6 ∧ (∀ b, b < N.length → 0 < (nmO N b).length ∧ (nmO N b).length ≤ 8 ∧ M 48 (84 + b) = nI (nmO N b).length ∧ ∀ k, k < (nmO N b).length → M 48 (90 + 8 * b + k) = nI ((nmO N b).getD k 0) ∧ (nmO N b).getD k 0 < 256) ∧ ∀ b, N.length ≤ b → b < 6 → M 48 (84 + b) = 0
def rO (T : Nat → Nat) (n : Nat) (I M : cp_I) (s : pS) : Prop := rK I M ∧ M 44 13 = 0 ∧ M 44 9 = 0 ∧ rTk T n s.1 M ∧ rFr s.2.1 s.2.2 M ∧ s.1 ≤ n
def rE (I M : cp_I) (e : pE) : Prop := rK I M ∧ M 44 13 = 1 ∧ M 44 9 = e.1 ∧ M 44 10 = nI e.2
theorem rK_refl (I : cp_I) : rK I I := ⟨fun _ _ _ => rfl, fun _ _ => rfl⟩
theorem rK_n {M' : cp_I} (h : rK I M) (h' : nK M M') : rK I M' := by
  refine ⟨fun a j ha => ?_, fun j hj => ?_⟩
  · rw [h'.1 a j (by omega)]
    exact h.1 a j ha
  · rw [h'.2 j (by omega)]
    exact h.2 j hj
theorem rK_44 (h : rK I M) {k : Nat} (v : Int32) (hk : (4 ≤ k ∧ k ≤ 10) ∨ k = 13) : rK I (cp_u M 44 k v) := by
  refine ⟨fun a j ha => ?_, fun j hj => ?_⟩
  · rw [cp_u_at, if_neg (by omega)]
    exact h.1 a j ha
  · rw [cp_u_at, if_neg (by omega)]
    exact h.2 j hj
theorem rK_48 (h : rK I M) (k : Nat) (v : Int32) : rK I (cp_u M 48 k v) := by
  refine ⟨fun a j ha => ?_, fun j hj => ?_⟩
  · rw [cp_u_at, if_neg (by omega)]
    exact h.1 a j ha
  · rw [cp_u_at, if_neg (by omega)]
    exact h.2 j hj
theorem rK_T (h : rK I M) (hT : rTx T n I) : rTx T n M := ⟨hT.1, fun k hk => by rw [h.1 45 k (by omega)]; exact hT.2 k hk⟩
theorem rFr_c {F : Nat → Int32} {N : List (List Nat)} {M' : cp_I} (h : rFr F N M) (e : ∀ j, M' 48 j = M 48 j) : rFr F N M' := by
  refine ⟨fun j hj => by rw [e]; exact h.1 j hj, h.2.1, fun b hb => ?_, fun b h1 h2 => by rw [e]; exact h.2.2.2 b h1 h2⟩
  obtain ⟨k1, k2, k3, k4⟩ := h.2.2.1 b hb
  exact ⟨k1, k2, by rw [e]; exact k3, fun k hk => by rw [e]; exact k4 k hk⟩
theorem rTk_c {M' : cp_I} (h : rTk T n p M) (e : ∀ j, (3 ≤ j ∧ j ≤ 8) → M' 44 j = M 44 j) (e6 : ∀ j, M' 46 j = M 46 j) : rTk T n p M' := by
  obtain ⟨h3, h4, h5, h6, h8, h7⟩ := h
  refine ⟨by rw [e 3 (by omega)]; exact h3, by rw [e 4 (by omega)]; exact h4, by rw [e 5 (by omega)]; exact h5, by rw [e 6 (by omega)]; exact h6, fun q => ⟨by rw [e 8 (by omega)]; exact (h8 q).1, fun k hk => by rw [e6]; exact (h8 q).2 k hk⟩, fun q => by rw [e 7 (by omega)]; exact h7 q⟩
theorem rO_n {M' : cp_I} (h : rO T n I M s) (h' : nK M M') (hk : rTk T n (te T n s.1) M') : rO T n I M' (pnx T n s) := by
  obtain ⟨h1, h2, h3, h4, h5, h6⟩ := h
  exact ⟨rK_n h1 h', by rw [h'.2 13 (by omega)]; exact h2, by rw [h'.2 9 (by omega)]; exact h3, hk, rFr_c h5 (fun j => h'.1 48 j (by omega)), te_le h6⟩
theorem c_Mod_nextO (hT : rTx T n I) (h : rO T n I M s) (hq : ∀ M', rO T n I M' (pnx T n s) → Q none SH M' J (PP t u r x)) : MW g false (d + 2) 0 0 m_Mod_next [.ref 44] SH M J (PP t u r x) Q :=
  c_Mod_next (rK_T h.1 hT) h.2.2.2.1.1 h.2.2.2.1.2.2.1 (te_le h.2.2.2.2.2) (fun M' k1 k2 => hq M' (rO_n h k1 k2))
theorem c_Mod_wrong {c : Int32} (h : rO T n I M s) (hq : ∀ M', rE I M' (c, ta T n s.1) → Q none SH M' J (PP t u r x)) : MW g false (d + 1) 0 0 m_Mod_wrong [.ref 44, .int c, .int (nI (ta T n s.1))] SH M J (PP t u r x) Q := by
  have h13 := h.2.1
  refine MW.of ok_Mod_wrong (Nat.le_of_ble_eq_true rfl) ?_
  refine cp_run 30 (fun _ => false) ck_Mod_wrong ?_
  simp only [cp_vc, cp_vs, cp_jm, cp_ent_en, cp_en_int, cp_en_ref, cp_en_ret, cp_en_long, cp_en_nil, cp_s1_at, cp_s2_at, cp_nl_int, cp_nl_ref, cp_nl_long, cp_nl_none, cp_pop_0, cp_pop_s, reduceIte, if_true, if_false, Bool.false_eq_true, Bool.true_eq_false, false_implies, implies_true, forall_const, true_implies, true_and, and_true, and_self, true_or, or_true, false_or, or_false, Value.category, List.length_cons, List.length_nil, Option.toList_some, Option.toList_none, List.cons_append, List.nil_append, List.append_nil, Prod.mk.injEq, Nat.add_zero, Nat.zero_add, Nat.reduceAdd, Nat.reduceSub, Nat.reduceEqDiff, Nat.reduceLeDiff, Nat.reduceLT, Nat.le_refl, beq_self_eq_true, Nat.reduceBEq, ne_eq, not_true_eq_false, not_false_eq_true, Int32.reduceAdd, Int32.reduceSub, Int32.reduceMul, Int32.reduceLE, Int32.reduceLT, Int32.reduceToNatClampNeg, b01_0, b01_1, ne_2_0, ne_3_0, ne_4_0, ne_5_0, ne_6_0, ne_m1_0, ne_m2_0, b01_01, b01_n, lt_m2, lt_m1, le_m2, le_m1, Classical.not_not, j_Mod_wrong_0, b_Mod_wrong_0, j_Mod_wrong_8, b_Mod_wrong_8, an_0, an_1, cl_1, ne_0_1, ne_1_0, sh_44, vi_1, h13]
  refine hq _ ⟨rK_44 (rK_44 (rK_44 h.1 _ (by omega)) _ (by omega)) _ (by omega), ?_, ?_, ?_⟩ <;> simp [cp_u_at]
theorem c_Mod_wrongE {c a : Int32} (h13 : M 44 13 = 1) (hq : Q none SH M J (PP t u r x)) : MW g false (d + 1) 0 0 m_Mod_wrong [.ref 44, .int c, .int a] SH M J (PP t u r x) Q := by
  refine MW.of ok_Mod_wrong (Nat.le_of_ble_eq_true rfl) ?_
  refine cp_run 30 (fun _ => false) ck_Mod_wrong ?_
  simp only [cp_vc, cp_vs, cp_jm, cp_ent_en, cp_en_int, cp_en_ref, cp_en_ret, cp_en_long, cp_en_nil, cp_s1_at, cp_s2_at, cp_nl_int, cp_nl_ref, cp_nl_long, cp_nl_none, cp_pop_0, cp_pop_s, reduceIte, if_true, if_false, Bool.false_eq_true, Bool.true_eq_false, false_implies, implies_true, forall_const, true_implies, true_and, and_true, and_self, true_or, or_true, false_or, or_false, Value.category, List.length_cons, List.length_nil, Option.toList_some, Option.toList_none, List.cons_append, List.nil_append, List.append_nil, Prod.mk.injEq, Nat.add_zero, Nat.zero_add, Nat.reduceAdd, Nat.reduceSub, Nat.reduceEqDiff, Nat.reduceLeDiff, Nat.reduceLT, Nat.le_refl, beq_self_eq_true, Nat.reduceBEq, ne_eq, not_true_eq_false, not_false_eq_true, Int32.reduceAdd, Int32.reduceSub, Int32.reduceMul, Int32.reduceLE, Int32.reduceLT, Int32.reduceToNatClampNeg, b01_0, b01_1, ne_2_0, ne_3_0, ne_4_0, ne_5_0, ne_6_0, ne_m1_0, ne_m2_0, b01_01, b01_n, lt_m2, lt_m1, le_m2, le_m1, Classical.not_not, j_Mod_wrong_0, b_Mod_wrong_0, j_Mod_wrong_8, b_Mod_wrong_8, an_0, an_1, cl_1, ne_0_1, ne_1_0, sh_44, vi_1, h13]
  exact hq
/-! words -/
def cmw (T : Nat → Nat) (a : Nat) (w : List Nat) : Nat → Nat → Bool
  | 0, _ => true
  | m + 1, k => decide (T (a + k) = w.getD k 0) && cmw T a w m (k + 1)
theorem cmw_iff {a : Nat} {w : List Nat} : ∀ m k, cmw T a w m k = true ↔ ∀ i, k ≤ i → i < k + m → T (a + i) = w.getD i 0
  | 0, k => by
    simp only [cmw, true_iff]
    intro i h1 h2
    omega
  | m + 1, k => by
    rw [cmw, Bool.and_eq_true, decide_eq_true_eq, cmw_iff m (k + 1)]
    constructor
    · intro ⟨h1, h2⟩ i h3 h4
      by_cases e : i = k
      · rw [e]
        exact h1
      · exact h2 i (by omega) (by omega)
    · intro h
      exact ⟨h k (by omega) (by omega), fun i h1 h2 => h i (by omega) (by omega)⟩
theorem l_ext {v w : List Nat} (hl : v.length = w.length) (h : ∀ k, k < w.length → v.getD k 0 = w.getD k 0) : v = w := by
  refine List.ext_getElem hl (fun k h1 h2 => ?_)
  have := h k h2
  simpa [h1, h2] using this
theorem cmw_wd {w : List Nat} (hl : te T n p - ta T n p = w.length) : cmw T (ta T n p) w (te T n p - ta T n p) 0 = decide (wd T n p = w) := by
  rw [Bool.eq_iff_iff, cmw_iff, decide_eq_true_eq]
  constructor
  · intro h
    refine l_ext (by rw [wd_len]; exact hl) (fun k hk => ?_)
    rw [wd_get (by omega)]
    exact h k (by omega) (by omega)
  · intro h i _ hi
    rw [← h, wd_get (by omega)]
theorem lp_Mod_isWord {j : Nat} {w : List Nat} (hj : j < 36) (hw : tx j = w.map nI) (hw2 : ∀ c ∈ w, c < 256) (hT : rTx T n M) (hk : rTk T n p M) (h2 : ts T n p = 2) (hl : te T n p - ta T n p = w.length) :
    ∀ (m k : Nat) (f : Bool) (L : cp_Lo), k + m = w.length → L 0 = some (.ref 44) → L 1 = some (.ref (1000 + j)) → L 2 = some (.int (if f = true then 1 else 0)) → L 3 = some (.int (nI k)) →
    Q (some (.int (if (f && cmw T (ta T n p) w m k) = true then 1 else 0))) SH M J (PP t u r x) → RW g false (d + 5) 0 0 m_Mod_isWord 0 0 32 L [] SH M J (PP t u r x) Q := by
  obtain ⟨h3, h4, h5, h6, h8, h7⟩ := hk
  obtain ⟨h81, h82⟩ := h8 h2
  rw [hl] at h81 h82
  obtain ⟨k1, k2, k3, k4⟩ := ts2 h2
  have hl8 : w.length ≤ 8 := by omega
  intro m
  induction m with
  | zero =>
    intro k f L hk l0 l1 l2 l3 hq
    have c1 : nI w.length ≤ nI k := nI_le (by omega) (by omega)
    refine cp_run 20 (fun t => t == 32) ck_Mod_isWord ?_
    simp only [cp_vc, cp_vs, cp_jm, cp_ent_en, cp_en_int, cp_en_ref, cp_en_ret, cp_en_long, cp_en_nil, cp_s1_at, cp_s2_at, cp_nl_int, cp_nl_ref, cp_nl_long, cp_nl_none, cp_pop_0, cp_pop_s, reduceIte, if_true, if_false, Bool.false_eq_true, Bool.true_eq_false, false_implies, implies_true, forall_const, true_implies, true_and, and_true, and_self, true_or, or_true, false_or, or_false, Value.category, List.length_cons, List.length_nil, Option.toList_some, Option.toList_none, List.cons_append, List.nil_append, List.append_nil, Prod.mk.injEq, Nat.add_zero, Nat.zero_add, Nat.reduceAdd, Nat.reduceSub, Nat.reduceEqDiff, Nat.reduceLeDiff, Nat.reduceLT, Nat.le_refl, beq_self_eq_true, Nat.reduceBEq, ne_eq, not_true_eq_false, not_false_eq_true, Int32.reduceAdd, Int32.reduceSub, Int32.reduceMul, Int32.reduceLE, Int32.reduceLT, Int32.reduceToNatClampNeg, b01_0, b01_1, ne_2_0, ne_3_0, ne_4_0, ne_5_0, ne_6_0, ne_m1_0, ne_m2_0, b01_01, b01_n, lt_m2, lt_m1, le_m2, le_m1, Classical.not_not, j_Mod_isWord_0, b_Mod_isWord_0, j_Mod_isWord_26, b_Mod_isWord_26, j_Mod_isWord_28, b_Mod_isWord_28, j_Mod_isWord_32, b_Mod_isWord_32, j_Mod_isWord_62, b_Mod_isWord_62, j_Mod_isWord_63, b_Mod_isWord_63, j_Mod_isWord_70, b_Mod_isWord_70, an_0, an_1, an_2, cl_0, cl_1, cl_2, ne_0_1, ne_0_2, ne_1_0, ne_1_2, ne_2_0, ne_2_1, pp_44_12, sh_44, sh_46, vi_0, vi_1, vi_2, l0, l1, l2, l3, h81, c1]
    simp only [cmw, Bool.and_true] at hq
    exact hq
  | succ m ih =>
    intro k f L hk l0 l1 l2 l3 hq
    have hkw : k < w.length := by omega
    have c1 : ¬ nI w.length ≤ nI k := nI_ge (by omega) (by omega)
    have e46 := h82 k hkw
    rw [cmw] at hq
    cases f with
    | false =>
      simp only [Bool.false_and, Bool.false_eq_true, if_false] at hq l2
      refine cp_run 40 (fun t => t == 32) ck_Mod_isWord ?_
      simp only [cp_vc, cp_vs, cp_jm, cp_ent_en, cp_en_int, cp_en_ref, cp_en_ret, cp_en_long, cp_en_nil, cp_s1_at, cp_s2_at, cp_nl_int, cp_nl_ref, cp_nl_long, cp_nl_none, cp_pop_0, cp_pop_s, reduceIte, if_true, if_false, Bool.false_eq_true, Bool.true_eq_false, false_implies, implies_true, forall_const, true_implies, true_and, and_true, and_self, true_or, or_true, false_or, or_false, Value.category, List.length_cons, List.length_nil, Option.toList_some, Option.toList_none, List.cons_append, List.nil_append, List.append_nil, Prod.mk.injEq, Nat.add_zero, Nat.zero_add, Nat.reduceAdd, Nat.reduceSub, Nat.reduceEqDiff, Nat.reduceLeDiff, Nat.reduceLT, Nat.le_refl, beq_self_eq_true, Nat.reduceBEq, ne_eq, not_true_eq_false, not_false_eq_true, Int32.reduceAdd, Int32.reduceSub, Int32.reduceMul, Int32.reduceLE, Int32.reduceLT, Int32.reduceToNatClampNeg, b01_0, b01_1, ne_2_0, ne_3_0, ne_4_0, ne_5_0, ne_6_0, ne_m1_0, ne_m2_0, b01_01, b01_n, lt_m2, lt_m1, le_m2, le_m1, Classical.not_not, j_Mod_isWord_0, b_Mod_isWord_0, j_Mod_isWord_26, b_Mod_isWord_26, j_Mod_isWord_28, b_Mod_isWord_28, j_Mod_isWord_32, b_Mod_isWord_32, j_Mod_isWord_62, b_Mod_isWord_62, j_Mod_isWord_63, b_Mod_isWord_63, j_Mod_isWord_70, b_Mod_isWord_70, an_0, an_1, an_2, cl_0, cl_1, cl_2, ne_0_1, ne_0_2, ne_1_0, ne_1_2, ne_2_0, ne_2_1, pp_44_12, sh_44, sh_46, vi_0, vi_1, vi_2, l0, l1, l2, l3, h81, c1, nI_1]
      refine ih (k + 1) false _ (by omega) ?_ ?_ ?_ ?_ (by simpa using hq) <;> simp [cp_s1_at, cp_nl_ref, cp_nl_int, l0, l1]
    | true =>
      simp only [if_true] at l2
      have hx : k < (tx j).length := by rw [hw, List.length_map]; exact hkw
      have hwk : w.getD k 0 < 256 := by
        rw [show w.getD k 0 = w[k] by simp [hkw]]
        exact hw2 _ (List.getElem_mem hkw)
      have ek : (tx j).getD k 0 = nI (w.getD k 0) := by
        rw [hw]
        simp [hkw]
      have hTk : T (ta T n p + k) < 256 := (hT.2 _ (by omega)).2
      refine cp_run 40 (fun t => t == 32) ck_Mod_isWord ?_
      simp only [cp_vc, cp_vs, cp_jm, cp_ent_en, cp_en_int, cp_en_ref, cp_en_ret, cp_en_long, cp_en_nil, cp_s1_at, cp_s2_at, cp_nl_int, cp_nl_ref, cp_nl_long, cp_nl_none, cp_pop_0, cp_pop_s, reduceIte, if_true, if_false, Bool.false_eq_true, Bool.true_eq_false, false_implies, implies_true, forall_const, true_implies, true_and, and_true, and_self, true_or, or_true, false_or, or_false, Value.category, List.length_cons, List.length_nil, Option.toList_some, Option.toList_none, List.cons_append, List.nil_append, List.append_nil, Prod.mk.injEq, Nat.add_zero, Nat.zero_add, Nat.reduceAdd, Nat.reduceSub, Nat.reduceEqDiff, Nat.reduceLeDiff, Nat.reduceLT, Nat.le_refl, beq_self_eq_true, Nat.reduceBEq, ne_eq, not_true_eq_false, not_false_eq_true, Int32.reduceAdd, Int32.reduceSub, Int32.reduceMul, Int32.reduceLE, Int32.reduceLT, Int32.reduceToNatClampNeg, b01_0, b01_1, ne_2_0, ne_3_0, ne_4_0, ne_5_0, ne_6_0, ne_m1_0, ne_m2_0, b01_01, b01_n, lt_m2, lt_m1, le_m2, le_m1, Classical.not_not, j_Mod_isWord_0, b_Mod_isWord_0, j_Mod_isWord_26, b_Mod_isWord_26, j_Mod_isWord_28, b_Mod_isWord_28, j_Mod_isWord_32, b_Mod_isWord_32, j_Mod_isWord_62, b_Mod_isWord_62, j_Mod_isWord_63, b_Mod_isWord_63, j_Mod_isWord_70, b_Mod_isWord_70, an_0, an_1, an_2, cl_0, cl_1, cl_2, ne_0_1, ne_0_2, ne_1_0, ne_1_2, ne_2_0, ne_2_1, pp_44_12, sh_44, sh_46, vi_0, vi_1, vi_2, l0, l1, l2, l3, h81, c1, nI_1, vin (show k < 8 by omega) (by omega), ncl (show k < 1000 by omega), e46]
      have q1 : 1000 + j - 1000 < cp_tx.length := by rw [cp_txl]; omega
      have q2 : 1000 ≤ 1000 + j := by omega
      refine ⟨q2, q1, c_charAt hj hx ?_⟩
      rw [ek]
      simp only [cp_kk, cp_vc, cp_vs, cp_jm, cp_ent_en, cp_en_int, cp_en_ref, cp_en_ret, cp_en_long, cp_en_nil, cp_s1_at, cp_s2_at, cp_nl_int, cp_nl_ref, cp_nl_long, cp_nl_none, cp_pop_0, cp_pop_s, reduceIte, if_true, if_false, Bool.false_eq_true, Bool.true_eq_false, false_implies, implies_true, forall_const, true_implies, true_and, and_true, and_self, true_or, or_true, false_or, or_false, Value.category, List.length_cons, List.length_nil, Option.toList_some, Option.toList_none, List.cons_append, List.nil_append, List.append_nil, Prod.mk.injEq, Nat.add_zero, Nat.zero_add, Nat.reduceAdd, Nat.reduceSub, Nat.reduceEqDiff, Nat.reduceLeDiff, Nat.reduceLT, Nat.le_refl, beq_self_eq_true, Nat.reduceBEq, ne_eq, not_true_eq_false, not_false_eq_true, Int32.reduceAdd, Int32.reduceSub, Int32.reduceMul, Int32.reduceLE, Int32.reduceLT, Int32.reduceToNatClampNeg, b01_0, b01_1, ne_2_0, ne_3_0, ne_4_0, ne_5_0, ne_6_0, ne_m1_0, ne_m2_0, b01_01, b01_n, lt_m2, lt_m1, le_m2, le_m1, Classical.not_not, Bool.or_false, Bool.false_or, Bool.true_or, Bool.or_true, j_Mod_isWord_0, b_Mod_isWord_0, j_Mod_isWord_26, b_Mod_isWord_26, j_Mod_isWord_28, b_Mod_isWord_28, j_Mod_isWord_32, b_Mod_isWord_32, j_Mod_isWord_62, b_Mod_isWord_62, j_Mod_isWord_63, b_Mod_isWord_63, j_Mod_isWord_70, b_Mod_isWord_70, an_0, an_1, an_2, cl_0, cl_1, cl_2, ne_0_1, ne_0_2, ne_1_0, ne_1_2, ne_2_0, ne_2_1, pp_44_12, sh_44, sh_46, vi_0, vi_1, vi_2, l0, l1, l2, l3, nI_1, eqN (show T (ta T n p + k) < 1000 by omega) (show w.getD k 0 < 1000 by omega)]
      refine ⟨fun c => ?_, fun c => ?_⟩
      · refine ih (k + 1) false _ (by omega) ?_ ?_ ?_ ?_ (by simp only [decide_eq_false c, Bool.false_and, Bool.and_false, Bool.true_and, Bool.and_true] at hq ⊢; exact hq) <;> simp [cp_s1_at, cp_nl_ref, cp_nl_int, l0, l1]
      · refine ih (k + 1) true _ (by omega) ?_ ?_ ?_ ?_ (by simp only [decide_eq_true c, Bool.false_and, Bool.and_false, Bool.true_and, Bool.and_true] at hq ⊢; exact hq) <;> simp [cp_s1_at, cp_nl_ref, cp_nl_int, l0, l1]
theorem c_Mod_isWord (j : Nat) (w : List Nat) (hj : j < 36) (hw : tx j = w.map nI) (hw2 : ∀ c ∈ w, c < 256) (hT : rTx T n I) (h : rO T n I M s) (hq : Q (some (.int (if pw T n s.1 w = true then 1 else 0))) SH M J (PP t u r x)) : MW g false (d + 5) 0 0 m_Mod_isWord [.ref 44, .ref (1000 + j)] SH M J (PP t u r x) Q := by
  have hTM := rK_T h.1 hT
  obtain ⟨-, h13, -, hk, -, hp⟩ := h
  have hk' := hk
  obtain ⟨h3, h4, h5, h6, h8, h7⟩ := hk'
  have hlt := @ts_lt T n s.1
  have e2 : (nI (ts T n s.1) = 2) = (ts T n s.1 = 2) := eqN (b := 2) (by omega) (by omega)
  have q1 : 1000 + j - 1000 < cp_tx.length := by rw [cp_txl]; omega
  have q2 : 1000 ≤ 1000 + j := by omega
  refine MW.of ok_Mod_isWord (Nat.le_of_ble_eq_true rfl) ?_
  by_cases c : ts T n s.1 = 2
  · obtain ⟨h81, h82⟩ := h8 c
    obtain ⟨k1, k2, k3, k4⟩ := ts2 c
    have hx := @tx_len j
    refine cp_run 40 (fun t => t == 32) ck_Mod_isWord ?_
    simp only [cp_vc, cp_vs, cp_jm, cp_ent_en, cp_en_int, cp_en_ref, cp_en_ret, cp_en_long, cp_en_nil, cp_s1_at, cp_s2_at, cp_nl_int, cp_nl_ref, cp_nl_long, cp_nl_none, cp_pop_0, cp_pop_s, reduceIte, if_true, if_false, Bool.false_eq_true, Bool.true_eq_false, false_implies, implies_true, forall_const, true_implies, true_and, and_true, and_self, true_or, or_true, false_or, or_false, Value.category, List.length_cons, List.length_nil, Option.toList_some, Option.toList_none, List.cons_append, List.nil_append, List.append_nil, Prod.mk.injEq, Nat.add_zero, Nat.zero_add, Nat.reduceAdd, Nat.reduceSub, Nat.reduceEqDiff, Nat.reduceLeDiff, Nat.reduceLT, Nat.le_refl, beq_self_eq_true, Nat.reduceBEq, ne_eq, not_true_eq_false, not_false_eq_true, Int32.reduceAdd, Int32.reduceSub, Int32.reduceMul, Int32.reduceLE, Int32.reduceLT, Int32.reduceToNatClampNeg, b01_0, b01_1, ne_2_0, ne_3_0, ne_4_0, ne_5_0, ne_6_0, ne_m1_0, ne_m2_0, b01_01, b01_n, lt_m2, lt_m1, le_m2, le_m1, Classical.not_not, j_Mod_isWord_0, b_Mod_isWord_0, j_Mod_isWord_26, b_Mod_isWord_26, j_Mod_isWord_28, b_Mod_isWord_28, j_Mod_isWord_32, b_Mod_isWord_32, j_Mod_isWord_62, b_Mod_isWord_62, j_Mod_isWord_63, b_Mod_isWord_63, j_Mod_isWord_70, b_Mod_isWord_70, an_0, an_1, an_2, cl_0, cl_1, cl_2, ne_0_1, ne_0_2, ne_1_0, ne_1_2, ne_2_0, ne_2_1, pp_44_12, sh_44, sh_46, vi_0, vi_1, vi_2, h13, h6, c, h81]
    have q3 : (nI 2 : Int32) = 2 := rfl
    simp only [q3, not_true_eq_false, false_implies, true_implies, true_and]
    refine ⟨q2, q1, c_length hj ?_⟩
    have e3 : (nI (te T n s.1 - ta T n s.1) = nI (tx j).length) = (te T n s.1 - ta T n s.1 = w.length) := by
      rw [eqN (by omega) hx, hw, List.length_map]
    simp only [cp_kk, cp_vc, cp_vs, cp_jm, cp_ent_en, cp_en_int, cp_en_ref, cp_en_ret, cp_en_long, cp_en_nil, cp_s1_at, cp_s2_at, cp_nl_int, cp_nl_ref, cp_nl_long, cp_nl_none, cp_pop_0, cp_pop_s, reduceIte, if_true, if_false, Bool.false_eq_true, Bool.true_eq_false, false_implies, implies_true, forall_const, true_implies, true_and, and_true, and_self, true_or, or_true, false_or, or_false, Value.category, List.length_cons, List.length_nil, Option.toList_some, Option.toList_none, List.cons_append, List.nil_append, List.append_nil, Prod.mk.injEq, Nat.add_zero, Nat.zero_add, Nat.reduceAdd, Nat.reduceSub, Nat.reduceEqDiff, Nat.reduceLeDiff, Nat.reduceLT, Nat.le_refl, beq_self_eq_true, Nat.reduceBEq, ne_eq, not_true_eq_false, not_false_eq_true, Int32.reduceAdd, Int32.reduceSub, Int32.reduceMul, Int32.reduceLE, Int32.reduceLT, Int32.reduceToNatClampNeg, b01_0, b01_1, ne_2_0, ne_3_0, ne_4_0, ne_5_0, ne_6_0, ne_m1_0, ne_m2_0, b01_01, b01_n, lt_m2, lt_m1, le_m2, le_m1, Classical.not_not, Bool.or_false, Bool.false_or, Bool.true_or, Bool.or_true, j_Mod_isWord_0, b_Mod_isWord_0, j_Mod_isWord_26, b_Mod_isWord_26, j_Mod_isWord_28, b_Mod_isWord_28, j_Mod_isWord_32, b_Mod_isWord_32, j_Mod_isWord_62, b_Mod_isWord_62, j_Mod_isWord_63, b_Mod_isWord_63, j_Mod_isWord_70, b_Mod_isWord_70, an_0, an_1, an_2, cl_0, cl_1, cl_2, ne_0_1, ne_0_2, ne_1_0, ne_1_2, ne_2_0, ne_2_1, pp_44_12, sh_44, sh_46, vi_0, vi_1, vi_2, h81, e3]
    refine ⟨fun c3 => ?_, fun c3 => ?_⟩
    · refine lp_Mod_isWord (p := s.1) hj hw hw2 hTM hk c c3 w.length 0 true _ (by omega) ?_ ?_ ?_ ?_ ?_
      · simp [cp_s1_at, cp_ent_en, cp_en_ref, cp_nl_ref]
      · simp [cp_s1_at, cp_ent_en, cp_en_ref, cp_nl_ref]
      · simp [cp_s1_at, cp_nl_int]
      · simp [cp_s1_at, nI_0]
      · rw [← c3, cmw_wd c3, Bool.true_and]
        simpa [pw, c] using hq
    · have : pw T n s.1 w = false := by
        simp only [pw, Bool.and_eq_false_iff, decide_eq_false_iff_not]
        right
        intro e
        apply c3
        rw [← wd_len, e]
      simpa [this] using hq
  · refine cp_run 40 (fun t => t == 32) ck_Mod_isWord ?_
    simp only [cp_vc, cp_vs, cp_jm, cp_ent_en, cp_en_int, cp_en_ref, cp_en_ret, cp_en_long, cp_en_nil, cp_s1_at, cp_s2_at, cp_nl_int, cp_nl_ref, cp_nl_long, cp_nl_none, cp_pop_0, cp_pop_s, reduceIte, if_true, if_false, Bool.false_eq_true, Bool.true_eq_false, false_implies, implies_true, forall_const, true_implies, true_and, and_true, and_self, true_or, or_true, false_or, or_false, Value.category, List.length_cons, List.length_nil, Option.toList_some, Option.toList_none, List.cons_append, List.nil_append, List.append_nil, Prod.mk.injEq, Nat.add_zero, Nat.zero_add, Nat.reduceAdd, Nat.reduceSub, Nat.reduceEqDiff, Nat.reduceLeDiff, Nat.reduceLT, Nat.le_refl, beq_self_eq_true, Nat.reduceBEq, ne_eq, not_true_eq_false, not_false_eq_true, Int32.reduceAdd, Int32.reduceSub, Int32.reduceMul, Int32.reduceLE, Int32.reduceLT, Int32.reduceToNatClampNeg, b01_0, b01_1, ne_2_0, ne_3_0, ne_4_0, ne_5_0, ne_6_0, ne_m1_0, ne_m2_0, b01_01, b01_n, lt_m2, lt_m1, le_m2, le_m1, Classical.not_not, j_Mod_isWord_0, b_Mod_isWord_0, j_Mod_isWord_26, b_Mod_isWord_26, j_Mod_isWord_28, b_Mod_isWord_28, j_Mod_isWord_32, b_Mod_isWord_32, j_Mod_isWord_62, b_Mod_isWord_62, j_Mod_isWord_63, b_Mod_isWord_63, j_Mod_isWord_70, b_Mod_isWord_70, an_0, an_1, an_2, cl_0, cl_1, cl_2, ne_0_1, ne_0_2, ne_1_0, ne_1_2, ne_2_0, ne_2_1, pp_44_12, sh_44, sh_46, vi_0, vi_1, vi_2, h13, h6, e2, c]
    have : pw T n s.1 w = false := by simp [pw, c]
    simpa [this] using hq
theorem c_Mod_isWordE {j : Nat} (h13 : M 44 13 = 1) (hq : Q (some (.int 0)) SH M J (PP t u r x)) : MW g false (d + 5) 0 0 m_Mod_isWord [.ref 44, .ref j] SH M J (PP t u r x) Q := by
  refine MW.of ok_Mod_isWord (Nat.le_of_ble_eq_true rfl) ?_
  refine cp_run 40 (fun t => t == 32) ck_Mod_isWord ?_
  simp only [cp_vc, cp_vs, cp_jm, cp_ent_en, cp_en_int, cp_en_ref, cp_en_ret, cp_en_long, cp_en_nil, cp_s1_at, cp_s2_at, cp_nl_int, cp_nl_ref, cp_nl_long, cp_nl_none, cp_pop_0, cp_pop_s, reduceIte, if_true, if_false, Bool.false_eq_true, Bool.true_eq_false, false_implies, implies_true, forall_const, true_implies, true_and, and_true, and_self, true_or, or_true, false_or, or_false, Value.category, List.length_cons, List.length_nil, Option.toList_some, Option.toList_none, List.cons_append, List.nil_append, List.append_nil, Prod.mk.injEq, Nat.add_zero, Nat.zero_add, Nat.reduceAdd, Nat.reduceSub, Nat.reduceEqDiff, Nat.reduceLeDiff, Nat.reduceLT, Nat.le_refl, beq_self_eq_true, Nat.reduceBEq, ne_eq, not_true_eq_false, not_false_eq_true, Int32.reduceAdd, Int32.reduceSub, Int32.reduceMul, Int32.reduceLE, Int32.reduceLT, Int32.reduceToNatClampNeg, b01_0, b01_1, ne_2_0, ne_3_0, ne_4_0, ne_5_0, ne_6_0, ne_m1_0, ne_m2_0, b01_01, b01_n, lt_m2, lt_m1, le_m2, le_m1, Classical.not_not, j_Mod_isWord_0, b_Mod_isWord_0, j_Mod_isWord_26, b_Mod_isWord_26, j_Mod_isWord_28, b_Mod_isWord_28, j_Mod_isWord_32, b_Mod_isWord_32, j_Mod_isWord_62, b_Mod_isWord_62, j_Mod_isWord_63, b_Mod_isWord_63, j_Mod_isWord_70, b_Mod_isWord_70, an_0, an_1, an_2, cl_0, cl_1, cl_2, ne_0_1, ne_0_2, ne_1_0, ne_1_2, ne_2_0, ne_2_1, pp_44_12, sh_44, sh_46, vi_0, vi_1, vi_2, h13]
  exact hq
/-! names -/
theorem nfind_step {w : List Nat} {N : List (List Nat)} {b : Nat} (hb : b < N.length) : nfind w (N.drop b) b = if nmO N b = w then some b else nfind w (N.drop (b + 1)) (b + 1) := by
  rw [List.drop_eq_getElem_cons hb, nfind]
  have : nmO N b = N[b] := by simp [nmO, hb]
  rw [this]
theorem nfind_end {w : List Nat} {N : List (List Nat)} {b : Nat} (hb : N.length ≤ b) : nfind w (N.drop b) b = none := by
  rw [List.drop_eq_nil_of_le hb, nfind]
theorem nfind_lt {w : List Nat} : ∀ {N : List (List Nat)} {b c : Nat}, nfind w N b = some c → c < b + N.length
  | [], b, c, h => by simp [nfind] at h
  | v :: N, b, c, h => by
    rw [nfind] at h
    split at h
    · simp only [Option.some.injEq] at h
      simp only [List.length_cons]
      omega
    · have := nfind_lt h
      simp only [List.length_cons]
      omega
def nfI : Option Nat → Int32
  | some b => nI b
  | none => -1
theorem lp_Mod_find_in {F : Nat → Int32} {N : List (List Nat)} {b : Nat} (hF : rFr F N M) (hb : b < N.length) (hT : rTx T n M) (hk : rTk T n p M) (h2 : ts T n p = 2) (hl : (nmO N b).length = te T n p - ta T n p) (h : ∀ L : cp_Lo, L 0 = some (.ref 44) → L 1 = some (.int (nI b)) → L 2 = some (.int (if decide (nmO N b = wd T n p) = true then 1 else 0)) → RW g false (d + 1) 0 0 m_Mod_find 0 0 91 L [] SH M J (PP t u r x) Q) :
    ∀ (m k : Nat) (f : Bool) (L : cp_Lo), k + m = te T n p - ta T n p → L 0 = some (.ref 44) → L 1 = some (.int (nI b)) → L 2 = some (.int (if f = true then 1 else 0)) → L 3 = some (.int (nI k)) → (f && cmw T (ta T n p) (nmO N b) m k) = decide (nmO N b = wd T n p) →
    RW g false (d + 1) 0 0 m_Mod_find 0 0 44 L [] SH M J (PP t u r x) Q := by
  obtain ⟨h3, h4, h5, h6, h8, h7⟩ := hk
  obtain ⟨h81, h82⟩ := h8 h2
  obtain ⟨k1, k2, k3, k4⟩ := ts2 h2
  obtain ⟨f1, f2, f3, f4⟩ := hF.2.2.1 b hb
  have hN := hF.2.1
  intro m
  induction m with
  | zero =>
    intro k f L hk l0 l1 l2 l3 hq
    have c1 : nI (te T n p - ta T n p) ≤ nI k := nI_le (by omega) (by omega)
    refine cp_run 20 (fun t => t == 44 || t == 91) ck_Mod_find ?_
    simp only [cp_vc, cp_vs, cp_jm, cp_ent_en, cp_en_int, cp_en_ref, cp_en_ret, cp_en_long, cp_en_nil, cp_s1_at, cp_s2_at, cp_nl_int, cp_nl_ref, cp_nl_long, cp_nl_none, cp_pop_0, cp_pop_s, reduceIte, if_true, if_false, Bool.false_eq_true, Bool.true_eq_false, false_implies, implies_true, forall_const, true_implies, true_and, and_true, and_self, true_or, or_true, false_or, or_false, Value.category, List.length_cons, List.length_nil, Option.toList_some, Option.toList_none, List.cons_append, List.nil_append, List.append_nil, Prod.mk.injEq, Nat.add_zero, Nat.zero_add, Nat.reduceAdd, Nat.reduceSub, Nat.reduceEqDiff, Nat.reduceLeDiff, Nat.reduceLT, Nat.le_refl, beq_self_eq_true, Nat.reduceBEq, ne_eq, not_true_eq_false, not_false_eq_true, Int32.reduceAdd, Int32.reduceSub, Int32.reduceMul, Int32.reduceLE, Int32.reduceLT, Int32.reduceToNatClampNeg, b01_0, b01_1, ne_2_0, ne_3_0, ne_4_0, ne_5_0, ne_6_0, ne_m1_0, ne_m2_0, b01_01, b01_n, lt_m2, lt_m1, le_m2, le_m1, Classical.not_not, Bool.or_false, Bool.false_or, Bool.true_or, Bool.or_true, j_Mod_find_0, b_Mod_find_0, j_Mod_find_2, b_Mod_find_2, j_Mod_find_40, b_Mod_find_40, j_Mod_find_41, b_Mod_find_41, j_Mod_find_44, b_Mod_find_44, j_Mod_find_83, b_Mod_find_83, j_Mod_find_84, b_Mod_find_84, j_Mod_find_91, b_Mod_find_91, j_Mod_find_97, b_Mod_find_97, j_Mod_find_103, b_Mod_find_103, an_0, an_1, an_6, an_8, cl_0, cl_1, cl_6, cl_8, cl_84, cl_90, ne_0_1, ne_0_6, ne_0_8, ne_0_m1, ne_1_0, ne_1_6, ne_1_8, ne_1_m1, ne_6_0, ne_6_1, ne_6_8, ne_6_m1, ne_8_0, ne_8_1, ne_8_6, ne_8_m1, ne_m1_0, ne_m1_1, ne_m1_6, ne_m1_8, pp_44_12, pp_44_16, sh_44, sh_46, sh_48, vi_0, vi_1, vi_6, vi_8, vi_84, vi_90, l0, l1, l2, l3, h81, c1]
    rw [cmw, Bool.and_true] at hq
    exact h L l0 l1 (by rw [l2, hq])
  | succ m ih =>
    intro k f L hk l0 l1 l2 l3 hq
    have c1 : ¬ nI (te T n p - ta T n p) ≤ nI k := nI_ge (by omega) (by omega)
    cases f with
    | false =>
      simp only [Bool.false_eq_true, if_false] at l2
      refine cp_run 20 (fun t => t == 44 || t == 91) ck_Mod_find ?_
      simp only [cp_vc, cp_vs, cp_jm, cp_ent_en, cp_en_int, cp_en_ref, cp_en_ret, cp_en_long, cp_en_nil, cp_s1_at, cp_s2_at, cp_nl_int, cp_nl_ref, cp_nl_long, cp_nl_none, cp_pop_0, cp_pop_s, reduceIte, if_true, if_false, Bool.false_eq_true, Bool.true_eq_false, false_implies, implies_true, forall_const, true_implies, true_and, and_true, and_self, true_or, or_true, false_or, or_false, Value.category, List.length_cons, List.length_nil, Option.toList_some, Option.toList_none, List.cons_append, List.nil_append, List.append_nil, Prod.mk.injEq, Nat.add_zero, Nat.zero_add, Nat.reduceAdd, Nat.reduceSub, Nat.reduceEqDiff, Nat.reduceLeDiff, Nat.reduceLT, Nat.le_refl, beq_self_eq_true, Nat.reduceBEq, ne_eq, not_true_eq_false, not_false_eq_true, Int32.reduceAdd, Int32.reduceSub, Int32.reduceMul, Int32.reduceLE, Int32.reduceLT, Int32.reduceToNatClampNeg, b01_0, b01_1, ne_2_0, ne_3_0, ne_4_0, ne_5_0, ne_6_0, ne_m1_0, ne_m2_0, b01_01, b01_n, lt_m2, lt_m1, le_m2, le_m1, Classical.not_not, Bool.or_false, Bool.false_or, Bool.true_or, Bool.or_true, j_Mod_find_0, b_Mod_find_0, j_Mod_find_2, b_Mod_find_2, j_Mod_find_40, b_Mod_find_40, j_Mod_find_41, b_Mod_find_41, j_Mod_find_44, b_Mod_find_44, j_Mod_find_83, b_Mod_find_83, j_Mod_find_84, b_Mod_find_84, j_Mod_find_91, b_Mod_find_91, j_Mod_find_97, b_Mod_find_97, j_Mod_find_103, b_Mod_find_103, an_0, an_1, an_6, an_8, cl_0, cl_1, cl_6, cl_8, cl_84, cl_90, ne_0_1, ne_0_6, ne_0_8, ne_0_m1, ne_1_0, ne_1_6, ne_1_8, ne_1_m1, ne_6_0, ne_6_1, ne_6_8, ne_6_m1, ne_8_0, ne_8_1, ne_8_6, ne_8_m1, ne_m1_0, ne_m1_1, ne_m1_6, ne_m1_8, pp_44_12, pp_44_16, sh_44, sh_46, sh_48, vi_0, vi_1, vi_6, vi_8, vi_84, vi_90, l0, l1, l2, l3, h81, c1]
      refine h L l0 l1 ?_
      rw [← hq]
      simpa using l2
    | true =>
      simp only [if_true] at l2
      have hkk : k < te T n p - ta T n p := by omega
      have e46 := h82 k hkk
      obtain ⟨e48, e49⟩ := f4 k (by omega)
      have hTk : T (ta T n p + k) < 256 := (hT.2 _ (by omega)).2
      have ei : (90 : Int32) + 8 * nI b + nI k = nI (90 + 8 * b + k) := by
        rw [show (90 : Int32) = nI 90 from rfl, show (8 : Int32) = nI 8 from rfl, pk_mul, nI_add, nI_add]
      rw [cmw] at hq
      refine cp_run 40 (fun t => t == 44 || t == 91) ck_Mod_find ?_
      simp only [cp_vc, cp_vs, cp_jm, cp_ent_en, cp_en_int, cp_en_ref, cp_en_ret, cp_en_long, cp_en_nil, cp_s1_at, cp_s2_at, cp_nl_int, cp_nl_ref, cp_nl_long, cp_nl_none, cp_pop_0, cp_pop_s, reduceIte, if_true, if_false, Bool.false_eq_true, Bool.true_eq_false, false_implies, implies_true, forall_const, true_implies, true_and, and_true, and_self, true_or, or_true, false_or, or_false, Value.category, List.length_cons, List.length_nil, Option.toList_some, Option.toList_none, List.cons_append, List.nil_append, List.append_nil, Prod.mk.injEq, Nat.add_zero, Nat.zero_add, Nat.reduceAdd, Nat.reduceSub, Nat.reduceEqDiff, Nat.reduceLeDiff, Nat.reduceLT, Nat.le_refl, beq_self_eq_true, Nat.reduceBEq, ne_eq, not_true_eq_false, not_false_eq_true, Int32.reduceAdd, Int32.reduceSub, Int32.reduceMul, Int32.reduceLE, Int32.reduceLT, Int32.reduceToNatClampNeg, b01_0, b01_1, ne_2_0, ne_3_0, ne_4_0, ne_5_0, ne_6_0, ne_m1_0, ne_m2_0, b01_01, b01_n, lt_m2, lt_m1, le_m2, le_m1, Classical.not_not, Bool.or_false, Bool.false_or, Bool.true_or, Bool.or_true, j_Mod_find_0, b_Mod_find_0, j_Mod_find_2, b_Mod_find_2, j_Mod_find_40, b_Mod_find_40, j_Mod_find_41, b_Mod_find_41, j_Mod_find_44, b_Mod_find_44, j_Mod_find_83, b_Mod_find_83, j_Mod_find_84, b_Mod_find_84, j_Mod_find_91, b_Mod_find_91, j_Mod_find_97, b_Mod_find_97, j_Mod_find_103, b_Mod_find_103, an_0, an_1, an_6, an_8, cl_0, cl_1, cl_6, cl_8, cl_84, cl_90, ne_0_1, ne_0_6, ne_0_8, ne_0_m1, ne_1_0, ne_1_6, ne_1_8, ne_1_m1, ne_6_0, ne_6_1, ne_6_8, ne_6_m1, ne_8_0, ne_8_1, ne_8_6, ne_8_m1, ne_m1_0, ne_m1_1, ne_m1_6, ne_m1_8, pp_44_12, pp_44_16, sh_44, sh_46, sh_48, vi_0, vi_1, vi_6, vi_8, vi_84, vi_90, l0, l1, l2, l3, h81, c1, nI_1, ei, vin (show 90 + 8 * b + k < 138 by omega) (by omega), ncl (show 90 + 8 * b + k < 1000 by omega), vin (show k < 8 by omega) (by omega), ncl (show k < 1000 by omega), e46, e48, eqN (show (nmO N b).getD k 0 < 1000 by omega) (show T (ta T n p + k) < 1000 by omega)]
      refine ⟨fun c => ?_, fun c => ?_⟩
      · have c' : ¬ T (ta T n p + k) = (nmO N b).getD k 0 := fun q => c q.symm
        refine ih (k + 1) false _ (by omega) ?_ ?_ ?_ ?_ (by simp only [decide_eq_false c', Bool.false_and, Bool.and_false, Bool.true_and, Bool.and_true] at hq ⊢; exact hq) <;> simp [cp_s1_at, cp_nl_ref, cp_nl_int, l0, l1]
      · have c' : T (ta T n p + k) = (nmO N b).getD k 0 := c.symm
        refine ih (k + 1) true _ (by omega) ?_ ?_ ?_ ?_ (by simp only [decide_eq_true c', Bool.false_and, Bool.and_false, Bool.true_and, Bool.and_true] at hq ⊢; exact hq) <;> simp [cp_s1_at, cp_nl_ref, cp_nl_int, l0, l1]
theorem lp_Mod_find {F : Nat → Int32} {N : List (List Nat)} (hF : rFr F N M) (hT : rTx T n M) (hk : rTk T n p M) (h2 : ts T n p = 2) (h : Q (some (.int (nfI (nfind (wd T n p) N 0)))) SH M J (PP t u r x)) :
    ∀ (m b : Nat) (L : cp_Lo), b + m = 6 → L 0 = some (.ref 44) → L 1 = some (.int (nI b)) → nfind (wd T n p) (N.drop b) b = nfind (wd T n p) N 0 → RW g false (d + 1) 0 0 m_Mod_find 0 0 2 L [] SH M J (PP t u r x) Q := by
  have hk' := hk
  obtain ⟨h3, h4, h5, h6, h8, h7⟩ := hk'
  obtain ⟨h81, h82⟩ := h8 h2
  obtain ⟨k1, k2, k3, k4⟩ := ts2 h2
  have hN := hF.2.1
  intro m
  induction m with
  | zero =>
    intro b L hb l0 l1 he
    have c1 : (6 : Int32) ≤ nI b := nI_le (a := 6) (by omega) (by omega)
    refine cp_run 20 (fun t => t == 2) ck_Mod_find ?_
    simp only [cp_vc, cp_vs, cp_jm, cp_ent_en, cp_en_int, cp_en_ref, cp_en_ret, cp_en_long, cp_en_nil, cp_s1_at, cp_s2_at, cp_nl_int, cp_nl_ref, cp_nl_long, cp_nl_none, cp_pop_0, cp_pop_s, reduceIte, if_true, if_false, Bool.false_eq_true, Bool.true_eq_false, false_implies, implies_true, forall_const, true_implies, true_and, and_true, and_self, true_or, or_true, false_or, or_false, Value.category, List.length_cons, List.length_nil, Option.toList_some, Option.toList_none, List.cons_append, List.nil_append, List.append_nil, Prod.mk.injEq, Nat.add_zero, Nat.zero_add, Nat.reduceAdd, Nat.reduceSub, Nat.reduceEqDiff, Nat.reduceLeDiff, Nat.reduceLT, Nat.le_refl, beq_self_eq_true, Nat.reduceBEq, ne_eq, not_true_eq_false, not_false_eq_true, Int32.reduceAdd, Int32.reduceSub, Int32.reduceMul, Int32.reduceLE, Int32.reduceLT, Int32.reduceToNatClampNeg, b01_0, b01_1, ne_2_0, ne_3_0, ne_4_0, ne_5_0, ne_6_0, ne_m1_0, ne_m2_0, b01_01, b01_n, lt_m2, lt_m1, le_m2, le_m1, Classical.not_not, j_Mod_find_0, b_Mod_find_0, j_Mod_find_2, b_Mod_find_2, j_Mod_find_40, b_Mod_find_40, j_Mod_find_41, b_Mod_find_41, j_Mod_find_44, b_Mod_find_44, j_Mod_find_83, b_Mod_find_83, j_Mod_find_84, b_Mod_find_84, j_Mod_find_91, b_Mod_find_91, j_Mod_find_97, b_Mod_find_97, j_Mod_find_103, b_Mod_find_103, an_0, an_1, an_6, an_8, cl_0, cl_1, cl_6, cl_8, cl_84, cl_90, ne_0_1, ne_0_6, ne_0_8, ne_0_m1, ne_1_0, ne_1_6, ne_1_8, ne_1_m1, ne_6_0, ne_6_1, ne_6_8, ne_6_m1, ne_8_0, ne_8_1, ne_8_6, ne_8_m1, ne_m1_0, ne_m1_1, ne_m1_6, ne_m1_8, pp_44_12, pp_44_16, sh_44, sh_46, sh_48, vi_0, vi_1, vi_6, vi_8, vi_84, vi_90, l0, l1, c1]
    rw [nfind_end (by omega)] at he
    rw [← he] at h
    exact h
  | succ m ih =>
    intro b L hb l0 l1 he
    have c1 : ¬ (6 : Int32) ≤ nI b := nI_ge (b := 6) (by omega) (by omega)
    have ei : (84 : Int32) + nI b = nI (84 + b) := nI_add 84 b
    have next : ∀ L : cp_Lo, L 0 = some (.ref 44) → L 1 = some (.int (nI b)) → L 2 = some (.int 0) → nfind (wd T n p) (N.drop (b + 1)) (b + 1) = nfind (wd T n p) N 0 → RW g false (d + 1) 0 0 m_Mod_find 0 0 91 L [] SH M J (PP t u r x) Q := by
      intro L l0 l1 l2 he
      refine cp_run 20 (fun t => t == 2) ck_Mod_find ?_
      simp only [cp_vc, cp_vs, cp_jm, cp_ent_en, cp_en_int, cp_en_ref, cp_en_ret, cp_en_long, cp_en_nil, cp_s1_at, cp_s2_at, cp_nl_int, cp_nl_ref, cp_nl_long, cp_nl_none, cp_pop_0, cp_pop_s, reduceIte, if_true, if_false, Bool.false_eq_true, Bool.true_eq_false, false_implies, implies_true, forall_const, true_implies, true_and, and_true, and_self, true_or, or_true, false_or, or_false, Value.category, List.length_cons, List.length_nil, Option.toList_some, Option.toList_none, List.cons_append, List.nil_append, List.append_nil, Prod.mk.injEq, Nat.add_zero, Nat.zero_add, Nat.reduceAdd, Nat.reduceSub, Nat.reduceEqDiff, Nat.reduceLeDiff, Nat.reduceLT, Nat.le_refl, beq_self_eq_true, Nat.reduceBEq, ne_eq, not_true_eq_false, not_false_eq_true, Int32.reduceAdd, Int32.reduceSub, Int32.reduceMul, Int32.reduceLE, Int32.reduceLT, Int32.reduceToNatClampNeg, b01_0, b01_1, ne_2_0, ne_3_0, ne_4_0, ne_5_0, ne_6_0, ne_m1_0, ne_m2_0, b01_01, b01_n, lt_m2, lt_m1, le_m2, le_m1, Classical.not_not, j_Mod_find_0, b_Mod_find_0, j_Mod_find_2, b_Mod_find_2, j_Mod_find_40, b_Mod_find_40, j_Mod_find_41, b_Mod_find_41, j_Mod_find_44, b_Mod_find_44, j_Mod_find_83, b_Mod_find_83, j_Mod_find_84, b_Mod_find_84, j_Mod_find_91, b_Mod_find_91, j_Mod_find_97, b_Mod_find_97, j_Mod_find_103, b_Mod_find_103, an_0, an_1, an_6, an_8, cl_0, cl_1, cl_6, cl_8, cl_84, cl_90, ne_0_1, ne_0_6, ne_0_8, ne_0_m1, ne_1_0, ne_1_6, ne_1_8, ne_1_m1, ne_6_0, ne_6_1, ne_6_8, ne_6_m1, ne_8_0, ne_8_1, ne_8_6, ne_8_m1, ne_m1_0, ne_m1_1, ne_m1_6, ne_m1_8, pp_44_12, pp_44_16, sh_44, sh_46, sh_48, vi_0, vi_1, vi_6, vi_8, vi_84, vi_90, l0, l1, l2, nI_1]
      refine ih (b + 1) _ (by omega) ?_ ?_ he <;> simp [cp_s1_at, cp_nl_ref, cp_nl_int, l0]
    by_cases hbN : b < N.length
    · obtain ⟨f1, f2, f3, f4⟩ := hF.2.2.1 b hbN
      have c2 : ¬ nI (nmO N b).length ≤ 0 := nI_nle (by omega) (by omega)
      rw [nfind_step hbN] at he
      refine cp_run 40 (fun t => t == 2 || t == 44) ck_Mod_find ?_
      simp only [cp_vc, cp_vs, cp_jm, cp_ent_en, cp_en_int, cp_en_ref, cp_en_ret, cp_en_long, cp_en_nil, cp_s1_at, cp_s2_at, cp_nl_int, cp_nl_ref, cp_nl_long, cp_nl_none, cp_pop_0, cp_pop_s, reduceIte, if_true, if_false, Bool.false_eq_true, Bool.true_eq_false, false_implies, implies_true, forall_const, true_implies, true_and, and_true, and_self, true_or, or_true, false_or, or_false, Value.category, List.length_cons, List.length_nil, Option.toList_some, Option.toList_none, List.cons_append, List.nil_append, List.append_nil, Prod.mk.injEq, Nat.add_zero, Nat.zero_add, Nat.reduceAdd, Nat.reduceSub, Nat.reduceEqDiff, Nat.reduceLeDiff, Nat.reduceLT, Nat.le_refl, beq_self_eq_true, Nat.reduceBEq, ne_eq, not_true_eq_false, not_false_eq_true, Int32.reduceAdd, Int32.reduceSub, Int32.reduceMul, Int32.reduceLE, Int32.reduceLT, Int32.reduceToNatClampNeg, b01_0, b01_1, ne_2_0, ne_3_0, ne_4_0, ne_5_0, ne_6_0, ne_m1_0, ne_m2_0, b01_01, b01_n, lt_m2, lt_m1, le_m2, le_m1, Classical.not_not, Bool.or_false, Bool.false_or, Bool.true_or, Bool.or_true, j_Mod_find_0, b_Mod_find_0, j_Mod_find_2, b_Mod_find_2, j_Mod_find_40, b_Mod_find_40, j_Mod_find_41, b_Mod_find_41, j_Mod_find_44, b_Mod_find_44, j_Mod_find_83, b_Mod_find_83, j_Mod_find_84, b_Mod_find_84, j_Mod_find_91, b_Mod_find_91, j_Mod_find_97, b_Mod_find_97, j_Mod_find_103, b_Mod_find_103, an_0, an_1, an_6, an_8, cl_0, cl_1, cl_6, cl_8, cl_84, cl_90, ne_0_1, ne_0_6, ne_0_8, ne_0_m1, ne_1_0, ne_1_6, ne_1_8, ne_1_m1, ne_6_0, ne_6_1, ne_6_8, ne_6_m1, ne_8_0, ne_8_1, ne_8_6, ne_8_m1, ne_m1_0, ne_m1_1, ne_m1_6, ne_m1_8, pp_44_12, pp_44_16, sh_44, sh_46, sh_48, vi_0, vi_1, vi_6, vi_8, vi_84, vi_90, l0, l1, c1, ei, vin (show 84 + b < 138 by omega) (by omega), ncl (show 84 + b < 1000 by omega), f3, c2, h81, eqN (show (nmO N b).length < 1000 by omega) (show te T n p - ta T n p < 1000 by omega)]
      have last : ∀ L : cp_Lo, L 0 = some (.ref 44) → L 1 = some (.int (nI b)) → L 2 = some (.int (if decide (nmO N b = wd T n p) = true then 1 else 0)) → RW g false (d + 1) 0 0 m_Mod_find 0 0 91 L [] SH M J (PP t u r x) Q := by
        intro L l0 l1 l2
        by_cases e : nmO N b = wd T n p
        · simp only [e, decide_true, if_true] at l2
          rw [if_pos e] at he
          refine cp_run 20 (fun t => t == 2) ck_Mod_find ?_
          simp only [cp_vc, cp_vs, cp_jm, cp_ent_en, cp_en_int, cp_en_ref, cp_en_ret, cp_en_long, cp_en_nil, cp_s1_at, cp_s2_at, cp_nl_int, cp_nl_ref, cp_nl_long, cp_nl_none, cp_pop_0, cp_pop_s, reduceIte, if_true, if_false, Bool.false_eq_true, Bool.true_eq_false, false_implies, implies_true, forall_const, true_implies, true_and, and_true, and_self, true_or, or_true, false_or, or_false, Value.category, List.length_cons, List.length_nil, Option.toList_some, Option.toList_none, List.cons_append, List.nil_append, List.append_nil, Prod.mk.injEq, Nat.add_zero, Nat.zero_add, Nat.reduceAdd, Nat.reduceSub, Nat.reduceEqDiff, Nat.reduceLeDiff, Nat.reduceLT, Nat.le_refl, beq_self_eq_true, Nat.reduceBEq, ne_eq, not_true_eq_false, not_false_eq_true, Int32.reduceAdd, Int32.reduceSub, Int32.reduceMul, Int32.reduceLE, Int32.reduceLT, Int32.reduceToNatClampNeg, b01_0, b01_1, ne_2_0, ne_3_0, ne_4_0, ne_5_0, ne_6_0, ne_m1_0, ne_m2_0, b01_01, b01_n, lt_m2, lt_m1, le_m2, le_m1, Classical.not_not, j_Mod_find_0, b_Mod_find_0, j_Mod_find_2, b_Mod_find_2, j_Mod_find_40, b_Mod_find_40, j_Mod_find_41, b_Mod_find_41, j_Mod_find_44, b_Mod_find_44, j_Mod_find_83, b_Mod_find_83, j_Mod_find_84, b_Mod_find_84, j_Mod_find_91, b_Mod_find_91, j_Mod_find_97, b_Mod_find_97, j_Mod_find_103, b_Mod_find_103, an_0, an_1, an_6, an_8, cl_0, cl_1, cl_6, cl_8, cl_84, cl_90, ne_0_1, ne_0_6, ne_0_8, ne_0_m1, ne_1_0, ne_1_6, ne_1_8, ne_1_m1, ne_6_0, ne_6_1, ne_6_8, ne_6_m1, ne_8_0, ne_8_1, ne_8_6, ne_8_m1, ne_m1_0, ne_m1_1, ne_m1_6, ne_m1_8, pp_44_12, pp_44_16, sh_44, sh_46, sh_48, vi_0, vi_1, vi_6, vi_8, vi_84, vi_90, l0, l1, l2]
          rw [← he] at h
          exact h
        · simp only [e, decide_false, Bool.false_eq_true, if_false] at l2
          rw [if_neg e] at he
          exact next L l0 l1 l2 he
      refine ⟨fun c => ?_, fun c => ?_⟩
      · have e : ¬ nmO N b = wd T n p := fun q => c (by rw [q, wd_len])
        have c3 : ¬ nI (te T n p - ta T n p) ≤ nI 0 := nI_ge (by omega) (by omega)
        rw [nI_0] at c3
        refine cp_run 20 (fun t => t == 91) ck_Mod_find ?_
        simp only [cp_vc, cp_vs, cp_jm, cp_ent_en, cp_en_int, cp_en_ref, cp_en_ret, cp_en_long, cp_en_nil, cp_s1_at, cp_s2_at, cp_nl_int, cp_nl_ref, cp_nl_long, cp_nl_none, cp_pop_0, cp_pop_s, reduceIte, if_true, if_false, Bool.false_eq_true, Bool.true_eq_false, false_implies, implies_true, forall_const, true_implies, true_and, and_true, and_self, true_or, or_true, false_or, or_false, Value.category, List.length_cons, List.length_nil, Option.toList_some, Option.toList_none, List.cons_append, List.nil_append, List.append_nil, Prod.mk.injEq, Nat.add_zero, Nat.zero_add, Nat.reduceAdd, Nat.reduceSub, Nat.reduceEqDiff, Nat.reduceLeDiff, Nat.reduceLT, Nat.le_refl, beq_self_eq_true, Nat.reduceBEq, ne_eq, not_true_eq_false, not_false_eq_true, Int32.reduceAdd, Int32.reduceSub, Int32.reduceMul, Int32.reduceLE, Int32.reduceLT, Int32.reduceToNatClampNeg, b01_0, b01_1, ne_2_0, ne_3_0, ne_4_0, ne_5_0, ne_6_0, ne_m1_0, ne_m2_0, b01_01, b01_n, lt_m2, lt_m1, le_m2, le_m1, Classical.not_not, j_Mod_find_0, b_Mod_find_0, j_Mod_find_2, b_Mod_find_2, j_Mod_find_40, b_Mod_find_40, j_Mod_find_41, b_Mod_find_41, j_Mod_find_44, b_Mod_find_44, j_Mod_find_83, b_Mod_find_83, j_Mod_find_84, b_Mod_find_84, j_Mod_find_91, b_Mod_find_91, j_Mod_find_97, b_Mod_find_97, j_Mod_find_103, b_Mod_find_103, an_0, an_1, an_6, an_8, cl_0, cl_1, cl_6, cl_8, cl_84, cl_90, ne_0_1, ne_0_6, ne_0_8, ne_0_m1, ne_1_0, ne_1_6, ne_1_8, ne_1_m1, ne_6_0, ne_6_1, ne_6_8, ne_6_m1, ne_8_0, ne_8_1, ne_8_6, ne_8_m1, ne_m1_0, ne_m1_1, ne_m1_6, ne_m1_8, pp_44_12, pp_44_16, sh_44, sh_46, sh_48, vi_0, vi_1, vi_6, vi_8, vi_84, vi_90, l0, l1, cp_s1_at, cp_nl_int, h81, c3]
        refine last _ ?_ ?_ ?_ <;> simp [cp_s1_at, cp_nl_ref, cp_nl_int, l0, l1, e]
      · refine lp_Mod_find_in (b := b) hF hbN hT hk h2 c last (te T n p - ta T n p) 0 true _ (by omega) ?_ ?_ ?_ ?_ ?_
        · simp [cp_s1_at, cp_nl_ref, l0]
        · simp [cp_s1_at, cp_nl_int, l1]
        · simp [cp_s1_at, cp_nl_int]
        · simp [cp_s1_at, nI_0]
        · rw [Bool.true_and, cmw_wd c.symm]
          exact decide_eq_decide.2 ⟨fun q => q.symm, fun q => q.symm⟩
    · have f0 := hF.2.2.2 b (by omega) (by omega)
      have c3 : ¬ nI (te T n p - ta T n p) ≤ nI 0 := nI_ge (by omega) (by omega)
      rw [nI_0] at c3
      refine cp_run 60 (fun t => t == 2 || t == 91) ck_Mod_find ?_
      simp only [cp_vc, cp_vs, cp_jm, cp_ent_en, cp_en_int, cp_en_ref, cp_en_ret, cp_en_long, cp_en_nil, cp_s1_at, cp_s2_at, cp_nl_int, cp_nl_ref, cp_nl_long, cp_nl_none, cp_pop_0, cp_pop_s, reduceIte, if_true, if_false, Bool.false_eq_true, Bool.true_eq_false, false_implies, implies_true, forall_const, true_implies, true_and, and_true, and_self, true_or, or_true, false_or, or_false, Value.category, List.length_cons, List.length_nil, Option.toList_some, Option.toList_none, List.cons_append, List.nil_append, List.append_nil, Prod.mk.injEq, Nat.add_zero, Nat.zero_add, Nat.reduceAdd, Nat.reduceSub, Nat.reduceEqDiff, Nat.reduceLeDiff, Nat.reduceLT, Nat.le_refl, beq_self_eq_true, Nat.reduceBEq, ne_eq, not_true_eq_false, not_false_eq_true, Int32.reduceAdd, Int32.reduceSub, Int32.reduceMul, Int32.reduceLE, Int32.reduceLT, Int32.reduceToNatClampNeg, b01_0, b01_1, ne_2_0, ne_3_0, ne_4_0, ne_5_0, ne_6_0, ne_m1_0, ne_m2_0, b01_01, b01_n, lt_m2, lt_m1, le_m2, le_m1, Classical.not_not, Bool.or_false, Bool.false_or, Bool.true_or, Bool.or_true, j_Mod_find_0, b_Mod_find_0, j_Mod_find_2, b_Mod_find_2, j_Mod_find_40, b_Mod_find_40, j_Mod_find_41, b_Mod_find_41, j_Mod_find_44, b_Mod_find_44, j_Mod_find_83, b_Mod_find_83, j_Mod_find_84, b_Mod_find_84, j_Mod_find_91, b_Mod_find_91, j_Mod_find_97, b_Mod_find_97, j_Mod_find_103, b_Mod_find_103, an_0, an_1, an_6, an_8, cl_0, cl_1, cl_6, cl_8, cl_84, cl_90, ne_0_1, ne_0_6, ne_0_8, ne_0_m1, ne_1_0, ne_1_6, ne_1_8, ne_1_m1, ne_6_0, ne_6_1, ne_6_8, ne_6_m1, ne_8_0, ne_8_1, ne_8_6, ne_8_m1, ne_m1_0, ne_m1_1, ne_m1_6, ne_m1_8, pp_44_12, pp_44_16, sh_44, sh_46, sh_48, vi_0, vi_1, vi_6, vi_8, vi_84, vi_90, l0, l1, c1, ei, vin (show 84 + b < 138 by omega) (by omega), ncl (show 84 + b < 1000 by omega), f0, h81, c3]
      refine next _ ?_ ?_ ?_ ?_
      · simp [cp_s1_at, cp_nl_ref, l0]
      · simp [cp_s1_at, cp_nl_int, l1]
      · simp [cp_s1_at, cp_nl_int]
      · rw [nfind_end (by omega)] at he ⊢
        exact he
theorem c_Mod_find (hT : rTx T n I) (h : rO T n I M s) (h2 : ts T n s.1 = 2) (hq : Q (some (.int (nfI (nfind (wd T n s.1) s.2.2 0)))) SH M J (PP t u r x)) : MW g false (d + 1) 0 0 m_Mod_find [.ref 44] SH M J (PP t u r x) Q := by
  refine MW.of ok_Mod_find (Nat.le_of_ble_eq_true rfl) ?_
  refine cp_run 20 (fun t => t == 2) ck_Mod_find ?_
  simp only [cp_vc, cp_vs, cp_jm, cp_ent_en, cp_en_int, cp_en_ref, cp_en_ret, cp_en_long, cp_en_nil, cp_s1_at, cp_s2_at, cp_nl_int, cp_nl_ref, cp_nl_long, cp_nl_none, cp_pop_0, cp_pop_s, reduceIte, if_true, if_false, Bool.false_eq_true, Bool.true_eq_false, false_implies, implies_true, forall_const, true_implies, true_and, and_true, and_self, true_or, or_true, false_or, or_false, Value.category, List.length_cons, List.length_nil, Option.toList_some, Option.toList_none, List.cons_append, List.nil_append, List.append_nil, Prod.mk.injEq, Nat.add_zero, Nat.zero_add, Nat.reduceAdd, Nat.reduceSub, Nat.reduceEqDiff, Nat.reduceLeDiff, Nat.reduceLT, Nat.le_refl, beq_self_eq_true, Nat.reduceBEq, ne_eq, not_true_eq_false, not_false_eq_true, Int32.reduceAdd, Int32.reduceSub, Int32.reduceMul, Int32.reduceLE, Int32.reduceLT, Int32.reduceToNatClampNeg, b01_0, b01_1, ne_2_0, ne_3_0, ne_4_0, ne_5_0, ne_6_0, ne_m1_0, ne_m2_0, b01_01, b01_n, lt_m2, lt_m1, le_m2, le_m1, Classical.not_not, j_Mod_find_0, b_Mod_find_0, j_Mod_find_2, b_Mod_find_2, j_Mod_find_40, b_Mod_find_40, j_Mod_find_41, b_Mod_find_41, j_Mod_find_44, b_Mod_find_44, j_Mod_find_83, b_Mod_find_83, j_Mod_find_84, b_Mod_find_84, j_Mod_find_91, b_Mod_find_91, j_Mod_find_97, b_Mod_find_97, j_Mod_find_103, b_Mod_find_103, an_0, an_1, an_6, an_8, cl_0, cl_1, cl_6, cl_8, cl_84, cl_90, ne_0_1, ne_0_6, ne_0_8, ne_0_m1, ne_1_0, ne_1_6, ne_1_8, ne_1_m1, ne_6_0, ne_6_1, ne_6_8, ne_6_m1, ne_8_0, ne_8_1, ne_8_6, ne_8_m1, ne_m1_0, ne_m1_1, ne_m1_6, ne_m1_8, pp_44_12, pp_44_16, sh_44, sh_46, sh_48, vi_0, vi_1, vi_6, vi_8, vi_84, vi_90]
  refine lp_Mod_find (p := s.1) h.2.2.2.2.1 (rK_T h.1 hT) h.2.2.2.1 h2 hq 6 0 _ (by omega) ?_ ?_ rfl
  · simp [cp_s1_at, cp_ent_en, cp_en_ref, cp_nl_ref]
  · simp [cp_s1_at, nI_0]
end Mod24
