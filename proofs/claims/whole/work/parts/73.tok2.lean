section Tok2
variable {g : cp_G} {d : Nat} {sh : cp_H} {I M : cp_I} {J : cp_J} {P : cp_P} {Q : cp_QT} {t u r x : Nat} {T : Nat → Nat} {n p : Nat}
theorem ts_sgn (h : ts T n p = 59 ∨ ts T n p = 44) : ta T n p < n ∧ T (ta T n p) = ts T n p := by
  unfold ts tsa at h ⊢
  split at h
  · omega
  · rename_i hn
    split at h
    · split at h <;> omega
    · rename_i hs
      split at h
      · split at h <;> omega
      · rename_i hd
        split at h
        · rename_i hc
          refine ⟨by omega, ?_⟩
          rw [if_neg hn, if_neg hs, if_neg hd, if_pos hc]
        · omega
theorem srt_3 : (srt (ts T n p) = 3) = (ts T n p = 59 ∨ ts T n p = 44) := by
  have h : ts T n p = 0 ∨ ts T n p = 1 ∨ ts T n p = 2 ∨ ts T n p = 3 ∨ ts T n p = 59 ∨ ts T n p = 44 := by
    unfold ts tsa
    split
    · omega
    · split
      · split <;> omega
      · split
        · split <;> omega
        · split <;> omega
  rcases h with h | h | h | h | h | h <;> rw [h] <;> decide
theorem srt_1 : (srt (ts T n p) = 1) = (ts T n p = 2) := by
  have h := @ts_lt T n p
  unfold srt
  split
  · rename_i h; rw [h]; simp
  · split
    · rename_i h; rw [h]; simp
    · split
      · rename_i h; rw [h]; simp
      · split
        · rename_i h; rw [h]; simp
        · rename_i h2 _ _
          simp [h2]
theorem srt_2 : (srt (ts T n p) = 2) = (ts T n p = 3) := by
  unfold srt
  split
  · rename_i h; rw [h]; simp
  · split
    · rename_i h; rw [h]; simp
    · split
      · rename_i h; rw [h]; simp
      · split
        · rename_i h; rw [h]; simp
        · rename_i h3 _
          simp [h3]
theorem srt_0 : (srt (ts T n p) = 0) = (ts T n p = 0) := by
  unfold srt
  split
  · rename_i h; rw [h]
  · rename_i h0
    split
    · simp [h0]
    · split
      · simp [h0]
      · split
        · simp [h0]
        · simp [h0]
theorem srt_lt (s : Nat) : srt s < 5 := by
  unfold srt
  split
  · omega
  · split
    · omega
    · split
      · omega
      · split <;> omega
theorem c_Tok_isSign {c : Nat} (hc : c = 59 ∨ c = 44) (hT : cTx T n I) (hk : cTk T n p I) (hp : p ≤ n) (h : Q (some (.int (if ts T n p = c then 1 else 0))) SH I J (PP t u r 1)) : MW g false (d + 1) 0 0 m_Tok_isSign [.ref 13, .int (nI c)] SH I J (PP t u r 1) Q := by
  obtain ⟨k1, k2, k3, k4⟩ := hk
  have hn := hT.1
  have ha := ta_le (T := T) hp
  have hs := srt_lt (ts T n p)
  have e3 : (nI (srt (ts T n p)) = 3) = (ts T n p = 59 ∨ ts T n p = 44) := by
    rw [← srt_3]
    exact eqN (b := 3) (by omega) (by omega)
  have hc128 : c < 128 := by omega
  refine MW.of ok_Tok_isSign (Nat.le_of_ble_eq_true rfl) ?_
  by_cases q : ts T n p = 59 ∨ ts T n p = 44
  · obtain ⟨h1, h2⟩ := ts_sgn q
    obtain ⟨t1, t2⟩ := hT.2 _ h1
    have c1 : ¬ nI n ≤ nI (ta T n p) := nI_ge h1 (by omega)
    have eb : (b8 (T (ta T n p)) = nI c) = (ts T n p = c) := by
      rw [b8_eq t2 hc128, h2]
    have e3' : nI (srt (ts T n p)) = 3 := by rw [e3]; exact q
    rw [e3'] at k4
    refine cp_run 40 (fun _ => false) ck_Tok_isSign ?_
    simp only [cp_vc, cp_vs, cp_jm, cp_ent_en, cp_en_int, cp_en_ref, cp_en_ret, cp_en_long, cp_en_nil, cp_s1_at, cp_s2_at, cp_nl_int, cp_nl_ref, cp_nl_long, cp_nl_none, cp_pop_0, cp_pop_s, reduceIte, if_true, if_false, Bool.false_eq_true, Bool.true_eq_false, false_implies, implies_true, forall_const, true_implies, true_and, and_true, and_self, true_or, or_true, false_or, or_false, Value.category, List.length_cons, List.length_nil, Option.toList_some, Option.toList_none, List.cons_append, List.nil_append, List.append_nil, Prod.mk.injEq, Nat.add_zero, Nat.zero_add, Nat.reduceAdd, Nat.reduceSub, Nat.reduceEqDiff, Nat.reduceLeDiff, Nat.reduceLT, Nat.le_refl, beq_self_eq_true, Nat.reduceBEq, ne_eq, not_true_eq_false, not_false_eq_true, Int32.reduceAdd, Int32.reduceSub, Int32.reduceMul, Int32.reduceLE, Int32.reduceLT, Int32.reduceToNatClampNeg, b01_0, b01_1, ne_2_0, ne_3_0, ne_4_0, ne_5_0, ne_6_0, ne_m1_0, ne_m2_0, b01_01, b01_n, lt_m2, lt_m1, le_m2, le_m1, Classical.not_not, j_Tok_isSign_0, b_Tok_isSign_0, j_Tok_isSign_36, b_Tok_isSign_36, j_Tok_isSign_37, b_Tok_isSign_37, an_0, an_1, an_3, cl_0, cl_1, cl_3, ne_0_1, ne_0_3, ne_1_0, ne_1_3, ne_3_0, ne_3_1, pp_13_0, sh_13, vi_0, vi_1, vi_3, k1, k3, k4, c1, pp_13_0, sh_1, vin (show ta T n p < 900 by omega) (by omega), ncl (show ta T n p < 1000 by omega), t1, eb]
    refine ⟨fun z => ?_, fun z => ?_⟩
    · rw [if_neg z] at h
      exact h
    · rw [if_pos z] at h
      exact h
  · refine cp_run 40 (fun _ => false) ck_Tok_isSign ?_
    simp only [cp_vc, cp_vs, cp_jm, cp_ent_en, cp_en_int, cp_en_ref, cp_en_ret, cp_en_long, cp_en_nil, cp_s1_at, cp_s2_at, cp_nl_int, cp_nl_ref, cp_nl_long, cp_nl_none, cp_pop_0, cp_pop_s, reduceIte, if_true, if_false, Bool.false_eq_true, Bool.true_eq_false, false_implies, implies_true, forall_const, true_implies, true_and, and_true, and_self, true_or, or_true, false_or, or_false, Value.category, List.length_cons, List.length_nil, Option.toList_some, Option.toList_none, List.cons_append, List.nil_append, List.append_nil, Prod.mk.injEq, Nat.add_zero, Nat.zero_add, Nat.reduceAdd, Nat.reduceSub, Nat.reduceEqDiff, Nat.reduceLeDiff, Nat.reduceLT, Nat.le_refl, beq_self_eq_true, Nat.reduceBEq, ne_eq, not_true_eq_false, not_false_eq_true, Int32.reduceAdd, Int32.reduceSub, Int32.reduceMul, Int32.reduceLE, Int32.reduceLT, Int32.reduceToNatClampNeg, b01_0, b01_1, ne_2_0, ne_3_0, ne_4_0, ne_5_0, ne_6_0, ne_m1_0, ne_m2_0, b01_01, b01_n, lt_m2, lt_m1, le_m2, le_m1, Classical.not_not, j_Tok_isSign_0, b_Tok_isSign_0, j_Tok_isSign_36, b_Tok_isSign_36, j_Tok_isSign_37, b_Tok_isSign_37, an_0, an_1, an_3, cl_0, cl_1, cl_3, ne_0_1, ne_0_3, ne_1_0, ne_1_3, ne_3_0, ne_3_1, pp_13_0, sh_13, vi_0, vi_1, vi_3, k4, e3, q]
    rw [if_neg (by omega)] at h
    exact h
theorem lp_Tok_spells {j : Nat} {w : List Nat} (hj : j < 36) (hw : tx j = w.map nI) (hw2 : ∀ c ∈ w, c < 256) (hT : cTx T n I) (hk : cTk T n p I) (h2 : ts T n p = 2) (hl : te T n p - ta T n p = w.length) :
    ∀ (m k : Nat) (L : cp_Lo), k + m = w.length → L 0 = some (.ref 13) → L 1 = some (.ref (1000 + j)) → L 2 = some (.int (nI (ta T n p + k))) →
    Q (some (.int (if cmw T (ta T n p) w m k = true then 1 else 0))) SH I J (PP t u r 1) → RW g false (d + 5) 0 0 m_Tok_spells 0 0 31 L [] SH I J (PP t u r 1) Q := by
  obtain ⟨h3, h4, h5, h6⟩ := hk
  obtain ⟨k1, k2, k3, k4⟩ := ts2 h2
  have hn := hT.1
  intro m
  induction m with
  | zero =>
    intro k L hk l0 l1 l2 hq
    have c1 : nI (te T n p) ≤ nI (ta T n p + k) := nI_le (by omega) (by omega)
    refine cp_run 20 (fun t => t == 31) ck_Tok_spells ?_
    rw [j_Tok_spells_31, b_Tok_spells_31]
    simp only [cp_vc, cp_vs, cp_jm, cp_ent_en, cp_en_int, cp_en_ref, cp_en_ret, cp_en_long, cp_en_nil, cp_s1_at, cp_s2_at, cp_nl_int, cp_nl_ref, cp_nl_long, cp_nl_none, cp_pop_0, cp_pop_s, reduceIte, if_true, if_false, Bool.false_eq_true, Bool.true_eq_false, false_implies, implies_true, forall_const, true_implies, true_and, and_true, and_self, true_or, or_true, false_or, or_false, Value.category, List.length_cons, List.length_nil, Option.toList_some, Option.toList_none, List.cons_append, List.nil_append, List.append_nil, Prod.mk.injEq, Nat.add_zero, Nat.zero_add, Nat.reduceAdd, Nat.reduceSub, Nat.reduceEqDiff, Nat.reduceLeDiff, Nat.reduceLT, Nat.le_refl, beq_self_eq_true, Nat.reduceBEq, ne_eq, not_true_eq_false, not_false_eq_true, Int32.reduceAdd, Int32.reduceSub, Int32.reduceMul, Int32.reduceLE, Int32.reduceLT, Int32.reduceToNatClampNeg, b01_0, b01_1, ne_2_0, ne_3_0, ne_4_0, ne_5_0, ne_6_0, ne_m1_0, ne_m2_0, b01_01, b01_n, lt_m2, lt_m1, le_m2, le_m1, Classical.not_not, j_Tok_spells_0, b_Tok_spells_0, j_Tok_spells_24, b_Tok_spells_24, j_Tok_spells_26, b_Tok_spells_26, j_Tok_spells_60, b_Tok_spells_60, j_Tok_spells_66, b_Tok_spells_66, an_0, an_1, cl_0, cl_1, ne_0_1, ne_1_0, pp_13_0, sh_13, vi_0, vi_1, l0, l1, l2, h4, c1]
    simp only [cmw, if_true] at hq
    exact hq
  | succ m ih =>
    intro k L hk l0 l1 l2 hq
    have hkw : k < w.length := by omega
    have c1 : ¬ nI (te T n p) ≤ nI (ta T n p + k) := nI_ge (by omega) (by omega)
    have hx : k < (tx j).length := by rw [hw, List.length_map]; exact hkw
    have hwk : w.getD k 0 < 256 := by
      rw [show w.getD k 0 = w[k] by simp [hkw]]
      exact hw2 _ (List.getElem_mem hkw)
    have ek : (tx j).getD k 0 = nI (w.getD k 0) := by
      rw [hw]
      simp [hkw]
    have hsm := k4 (ta T n p + k) (by omega) (by omega)
    simp only [isSm, Bool.and_eq_true, decide_eq_true_eq] at hsm
    have t1 : I 1 (ta T n p + k) = nI (T (ta T n p + k)) := by
      rw [(hT.2 (ta T n p + k) (by omega)).1]
      exact b8_lt (by omega)
    have es : nI (ta T n p + k) - nI (ta T n p) = nI k := by rw [pk_sub (by omega), show ta T n p + k - ta T n p = k by omega]
    rw [cmw] at hq
    refine cp_run 40 (fun t => t == 31) ck_Tok_spells ?_
    rw [j_Tok_spells_31, b_Tok_spells_31]
    simp only [cp_vc, cp_vs, cp_jm, cp_ent_en, cp_en_int, cp_en_ref, cp_en_ret, cp_en_long, cp_en_nil, cp_s1_at, cp_s2_at, cp_nl_int, cp_nl_ref, cp_nl_long, cp_nl_none, cp_pop_0, cp_pop_s, reduceIte, if_true, if_false, Bool.false_eq_true, Bool.true_eq_false, false_implies, implies_true, forall_const, true_implies, true_and, and_true, and_self, true_or, or_true, false_or, or_false, Value.category, List.length_cons, List.length_nil, Option.toList_some, Option.toList_none, List.cons_append, List.nil_append, List.append_nil, Prod.mk.injEq, Nat.add_zero, Nat.zero_add, Nat.reduceAdd, Nat.reduceSub, Nat.reduceEqDiff, Nat.reduceLeDiff, Nat.reduceLT, Nat.le_refl, beq_self_eq_true, Nat.reduceBEq, ne_eq, not_true_eq_false, not_false_eq_true, Int32.reduceAdd, Int32.reduceSub, Int32.reduceMul, Int32.reduceLE, Int32.reduceLT, Int32.reduceToNatClampNeg, b01_0, b01_1, ne_2_0, ne_3_0, ne_4_0, ne_5_0, ne_6_0, ne_m1_0, ne_m2_0, b01_01, b01_n, lt_m2, lt_m1, le_m2, le_m1, Classical.not_not, j_Tok_spells_0, b_Tok_spells_0, j_Tok_spells_24, b_Tok_spells_24, j_Tok_spells_26, b_Tok_spells_26, j_Tok_spells_60, b_Tok_spells_60, j_Tok_spells_66, b_Tok_spells_66, an_0, an_1, cl_0, cl_1, ne_0_1, ne_1_0, pp_13_0, sh_13, vi_0, vi_1, l0, l1, l2, h4, h5, c1, pp_13_0, sh_1, vin (show ta T n p + k < 900 by omega) (by omega), ncl (show ta T n p + k < 1000 by omega), t1, es]
    have q1 : 1000 + j - 1000 < cp_tx.length := by rw [cp_txl]; omega
    have q2 : 1000 ≤ 1000 + j := by omega
    refine ⟨q2, q1, c_charAt hj hx ?_⟩
    rw [ek]
    simp only [cp_kk, cp_vc, cp_vs, cp_jm, cp_ent_en, cp_en_int, cp_en_ref, cp_en_ret, cp_en_long, cp_en_nil, cp_s1_at, cp_s2_at, cp_nl_int, cp_nl_ref, cp_nl_long, cp_nl_none, cp_pop_0, cp_pop_s, reduceIte, if_true, if_false, Bool.false_eq_true, Bool.true_eq_false, false_implies, implies_true, forall_const, true_implies, true_and, and_true, and_self, true_or, or_true, false_or, or_false, Value.category, List.length_cons, List.length_nil, Option.toList_some, Option.toList_none, List.cons_append, List.nil_append, List.append_nil, Prod.mk.injEq, Nat.add_zero, Nat.zero_add, Nat.reduceAdd, Nat.reduceSub, Nat.reduceEqDiff, Nat.reduceLeDiff, Nat.reduceLT, Nat.le_refl, beq_self_eq_true, Nat.reduceBEq, ne_eq, not_true_eq_false, not_false_eq_true, Int32.reduceAdd, Int32.reduceSub, Int32.reduceMul, Int32.reduceLE, Int32.reduceLT, Int32.reduceToNatClampNeg, b01_0, b01_1, ne_2_0, ne_3_0, ne_4_0, ne_5_0, ne_6_0, ne_m1_0, ne_m2_0, b01_01, b01_n, lt_m2, lt_m1, le_m2, le_m1, Classical.not_not, Bool.or_false, Bool.false_or, Bool.true_or, Bool.or_true, j_Tok_spells_0, b_Tok_spells_0, j_Tok_spells_24, b_Tok_spells_24, j_Tok_spells_26, b_Tok_spells_26, j_Tok_spells_60, b_Tok_spells_60, j_Tok_spells_66, b_Tok_spells_66, an_0, an_1, cl_0, cl_1, ne_0_1, ne_1_0, pp_13_0, sh_13, vi_0, vi_1, l0, l1, l2, nI_1, eqN (show T (ta T n p + k) < 1000 by omega) (show w.getD k 0 < 1000 by omega)]
    refine ⟨fun c => ?_, fun c => ?_⟩
    · rw [decide_eq_true c, Bool.true_and] at hq
      refine ih (k + 1) _ (by omega) ?_ ?_ ?_ hq
      · simp [cp_s1_at, cp_nl_ref, l0]
      · simp [cp_s1_at, cp_nl_ref, l1]
      · simp [cp_s1_at]
        rfl
    · rw [decide_eq_false c, Bool.false_and] at hq
      exact hq
theorem c_Tok_spells {j : Nat} {w : List Nat} (hw : (j < 36 ∧ tx j = w.map nI) ∧ ∀ c ∈ w, c < 256) (hT : cTx T n I) (hk : cTk T n p I) (hp : p ≤ n) (hq : Q (some (.int (if pw T n p w = true then 1 else 0))) SH I J (PP t u r 1)) : MW g false (d + 5) 0 0 m_Tok_spells [.ref 13, .ref (1000 + j)] SH I J (PP t u r 1) Q := by
  obtain ⟨⟨hj, hw1⟩, hw2⟩ := hw
  obtain ⟨h3, h4, h5, h6⟩ := id hk
  have hn := hT.1
  have ha := ta_le (T := T) hp
  have he := te_le (T := T) hp
  have hae : ta T n p ≤ te T n p := tea_ge T n _
  have hs := srt_lt (ts T n p)
  have e1 : (nI (srt (ts T n p)) = 1) = (ts T n p = 2) := by
    rw [← srt_1]
    exact eqN (b := 1) (by omega) (by omega)
  have q1 : 1000 + j - 1000 < cp_tx.length := by rw [cp_txl]; omega
  have q2 : 1000 ≤ 1000 + j := by omega
  refine MW.of ok_Tok_spells (Nat.le_of_ble_eq_true rfl) ?_
  by_cases c : ts T n p = 2
  · have e1' : nI (srt (ts T n p)) = 1 := by rw [e1]; exact c
    rw [e1'] at h6
    have hx := @tx_len j
    refine cp_run 40 (fun t => t == 31) ck_Tok_spells ?_
    simp only [cp_vc, cp_vs, cp_jm, cp_ent_en, cp_en_int, cp_en_ref, cp_en_ret, cp_en_long, cp_en_nil, cp_s1_at, cp_s2_at, cp_nl_int, cp_nl_ref, cp_nl_long, cp_nl_none, cp_pop_0, cp_pop_s, reduceIte, if_true, if_false, Bool.false_eq_true, Bool.true_eq_false, false_implies, implies_true, forall_const, true_implies, true_and, and_true, and_self, true_or, or_true, false_or, or_false, Value.category, List.length_cons, List.length_nil, Option.toList_some, Option.toList_none, List.cons_append, List.nil_append, List.append_nil, Prod.mk.injEq, Nat.add_zero, Nat.zero_add, Nat.reduceAdd, Nat.reduceSub, Nat.reduceEqDiff, Nat.reduceLeDiff, Nat.reduceLT, Nat.le_refl, beq_self_eq_true, Nat.reduceBEq, ne_eq, not_true_eq_false, not_false_eq_true, Int32.reduceAdd, Int32.reduceSub, Int32.reduceMul, Int32.reduceLE, Int32.reduceLT, Int32.reduceToNatClampNeg, b01_0, b01_1, ne_2_0, ne_3_0, ne_4_0, ne_5_0, ne_6_0, ne_m1_0, ne_m2_0, b01_01, b01_n, lt_m2, lt_m1, le_m2, le_m1, Classical.not_not, j_Tok_spells_0, b_Tok_spells_0, j_Tok_spells_24, b_Tok_spells_24, j_Tok_spells_26, b_Tok_spells_26, j_Tok_spells_60, b_Tok_spells_60, j_Tok_spells_66, b_Tok_spells_66, an_0, an_1, cl_0, cl_1, ne_0_1, ne_1_0, pp_13_0, sh_13, vi_0, vi_1, h4, h5, h6, pk_sub hae]
    refine ⟨q2, q1, c_length hj ?_⟩
    have e3 : (nI (te T n p - ta T n p) = nI (tx j).length) = (te T n p - ta T n p = w.length) := by
      rw [eqN (by omega) hx, hw1, List.length_map]
    simp only [cp_kk, cp_vc, cp_vs, cp_jm, cp_ent_en, cp_en_int, cp_en_ref, cp_en_ret, cp_en_long, cp_en_nil, cp_s1_at, cp_s2_at, cp_nl_int, cp_nl_ref, cp_nl_long, cp_nl_none, cp_pop_0, cp_pop_s, reduceIte, if_true, if_false, Bool.false_eq_true, Bool.true_eq_false, false_implies, implies_true, forall_const, true_implies, true_and, and_true, and_self, true_or, or_true, false_or, or_false, Value.category, List.length_cons, List.length_nil, Option.toList_some, Option.toList_none, List.cons_append, List.nil_append, List.append_nil, Prod.mk.injEq, Nat.add_zero, Nat.zero_add, Nat.reduceAdd, Nat.reduceSub, Nat.reduceEqDiff, Nat.reduceLeDiff, Nat.reduceLT, Nat.le_refl, beq_self_eq_true, Nat.reduceBEq, ne_eq, not_true_eq_false, not_false_eq_true, Int32.reduceAdd, Int32.reduceSub, Int32.reduceMul, Int32.reduceLE, Int32.reduceLT, Int32.reduceToNatClampNeg, b01_0, b01_1, ne_2_0, ne_3_0, ne_4_0, ne_5_0, ne_6_0, ne_m1_0, ne_m2_0, b01_01, b01_n, lt_m2, lt_m1, le_m2, le_m1, Classical.not_not, Bool.or_false, Bool.false_or, Bool.true_or, Bool.or_true, j_Tok_spells_0, b_Tok_spells_0, j_Tok_spells_24, b_Tok_spells_24, j_Tok_spells_26, b_Tok_spells_26, j_Tok_spells_60, b_Tok_spells_60, j_Tok_spells_66, b_Tok_spells_66, an_0, an_1, cl_0, cl_1, ne_0_1, ne_1_0, pp_13_0, sh_13, vi_0, vi_1, e3, h5]
    refine ⟨fun c3 => ?_, fun c3 => ?_⟩
    · refine lp_Tok_spells (p := p) hj hw1 hw2 hT hk c c3 w.length 0 _ (by omega) ?_ ?_ ?_ ?_
      · simp [cp_s1_at, cp_ent_en, cp_en_ref, cp_nl_ref]
      · simp [cp_s1_at, cp_ent_en, cp_en_ref, cp_nl_ref]
      · simp [cp_s1_at]
      · rw [← c3, cmw_wd c3]
        simpa [pw, c] using hq
    · have : pw T n p w = false := by
        simp only [pw, Bool.and_eq_false_iff, decide_eq_false_iff_not]
        right
        intro e
        apply c3
        rw [← wd_len, e]
      simpa [this] using hq
  · refine cp_run 40 (fun t => t == 31) ck_Tok_spells ?_
    simp only [cp_vc, cp_vs, cp_jm, cp_ent_en, cp_en_int, cp_en_ref, cp_en_ret, cp_en_long, cp_en_nil, cp_s1_at, cp_s2_at, cp_nl_int, cp_nl_ref, cp_nl_long, cp_nl_none, cp_pop_0, cp_pop_s, reduceIte, if_true, if_false, Bool.false_eq_true, Bool.true_eq_false, false_implies, implies_true, forall_const, true_implies, true_and, and_true, and_self, true_or, or_true, false_or, or_false, Value.category, List.length_cons, List.length_nil, Option.toList_some, Option.toList_none, List.cons_append, List.nil_append, List.append_nil, Prod.mk.injEq, Nat.add_zero, Nat.zero_add, Nat.reduceAdd, Nat.reduceSub, Nat.reduceEqDiff, Nat.reduceLeDiff, Nat.reduceLT, Nat.le_refl, beq_self_eq_true, Nat.reduceBEq, ne_eq, not_true_eq_false, not_false_eq_true, Int32.reduceAdd, Int32.reduceSub, Int32.reduceMul, Int32.reduceLE, Int32.reduceLT, Int32.reduceToNatClampNeg, b01_0, b01_1, ne_2_0, ne_3_0, ne_4_0, ne_5_0, ne_6_0, ne_m1_0, ne_m2_0, b01_01, b01_n, lt_m2, lt_m1, le_m2, le_m1, Classical.not_not, j_Tok_spells_0, b_Tok_spells_0, j_Tok_spells_24, b_Tok_spells_24, j_Tok_spells_26, b_Tok_spells_26, j_Tok_spells_60, b_Tok_spells_60, j_Tok_spells_66, b_Tok_spells_66, an_0, an_1, cl_0, cl_1, ne_0_1, ne_1_0, pp_13_0, sh_13, vi_0, vi_1, h6, e1, c]
    have : pw T n p w = false := by simp [pw, c]
    simpa [this] using hq
theorem cq_plunge : (0 < 36 ∧ tx 0 = w_plunge.map nI) ∧ ∀ c ∈ w_plunge, c < 256 := by decide +kernel
theorem cq_bather : (1 < 36 ∧ tx 1 = w_bather.map nI) ∧ ∀ c ∈ w_bather, c < 256 := by decide +kernel
theorem cq_knows : (2 < 36 ∧ tx 2 = w_knows.map nI) ∧ ∀ c ∈ w_knows, c < 256 := by decide +kernel
theorem cq_foes : (3 < 36 ∧ tx 3 = w_foes.map nI) ∧ ∀ c ∈ w_foes, c < 256 := by decide +kernel
theorem cq_unsure : (4 < 36 ∧ tx 4 = w_unsure.map nI) ∧ ∀ c ∈ w_unsure, c < 256 := by decide +kernel
theorem cq_felt : (5 < 36 ∧ tx 5 = w_felt.map nI) ∧ ∀ c ∈ w_felt, c < 256 := by decide +kernel
theorem c_Tok_isLineWord (hT : cTx T n I) (hk : cTk T n p I) (hp : p ≤ n) (hq : Q (some (.int (if lnw T n p = true then 1 else 0))) SH I J (PP t u r 1)) : MW g false (d + 6) 0 0 m_Tok_isLineWord [.ref 13] SH I J (PP t u r 1) Q := by
  refine MW.of ok_Tok_isLineWord (Nat.le_of_ble_eq_true rfl) ?_
  have yes : lnw T n p = true → RW g false (d + 6) 0 0 m_Tok_isLineWord 0 0 54 (cp_ent [.ref 13]) [] SH I J (PP t u r 1) Q := by
    intro e
    rw [if_pos e] at hq
    refine cp_run 10 (fun _ => false) ck_Tok_isLineWord ?_
    simp only [cp_vc, cp_vs, cp_jm, cp_ent_en, cp_en_int, cp_en_ref, cp_en_ret, cp_en_long, cp_en_nil, cp_s1_at, cp_s2_at, cp_nl_int, cp_nl_ref, cp_nl_long, cp_nl_none, cp_pop_0, cp_pop_s, reduceIte, if_true, if_false, Bool.false_eq_true, Bool.true_eq_false, false_implies, implies_true, forall_const, true_implies, true_and, and_true, and_self, true_or, or_true, false_or, or_false, Value.category, List.length_cons, List.length_nil, Option.toList_some, Option.toList_none, List.cons_append, List.nil_append, List.append_nil, Prod.mk.injEq, Nat.add_zero, Nat.zero_add, Nat.reduceAdd, Nat.reduceSub, Nat.reduceEqDiff, Nat.reduceLeDiff, Nat.reduceLT, Nat.le_refl, beq_self_eq_true, Nat.reduceBEq, ne_eq, not_true_eq_false, not_false_eq_true, Int32.reduceAdd, Int32.reduceSub, Int32.reduceMul, Int32.reduceLE, Int32.reduceLT, Int32.reduceToNatClampNeg, b01_0, b01_1, ne_2_0, ne_3_0, ne_4_0, ne_5_0, ne_6_0, ne_m1_0, ne_m2_0, b01_01, b01_n, lt_m2, lt_m1, le_m2, le_m1, Classical.not_not, j_Tok_isLineWord_0, b_Tok_isLineWord_0, j_Tok_isLineWord_54, b_Tok_isLineWord_54, j_Tok_isLineWord_58, b_Tok_isLineWord_58, j_Tok_isLineWord_59, b_Tok_isLineWord_59, an_0, an_1, cl_0, cl_1, ne_0_1, ne_1_0, sh_13, vi_0, vi_1]
    exact hq
  refine cp_run 40 (fun t => t == 54) ck_Tok_isLineWord ?_
  simp only [cp_vc, cp_vs, cp_jm, cp_ent_en, cp_en_int, cp_en_ref, cp_en_ret, cp_en_long, cp_en_nil, cp_s1_at, cp_s2_at, cp_nl_int, cp_nl_ref, cp_nl_long, cp_nl_none, cp_pop_0, cp_pop_s, reduceIte, if_true, if_false, Bool.false_eq_true, Bool.true_eq_false, false_implies, implies_true, forall_const, true_implies, true_and, and_true, and_self, true_or, or_true, false_or, or_false, Value.category, List.length_cons, List.length_nil, Option.toList_some, Option.toList_none, List.cons_append, List.nil_append, List.append_nil, Prod.mk.injEq, Nat.add_zero, Nat.zero_add, Nat.reduceAdd, Nat.reduceSub, Nat.reduceEqDiff, Nat.reduceLeDiff, Nat.reduceLT, Nat.le_refl, beq_self_eq_true, Nat.reduceBEq, ne_eq, not_true_eq_false, not_false_eq_true, Int32.reduceAdd, Int32.reduceSub, Int32.reduceMul, Int32.reduceLE, Int32.reduceLT, Int32.reduceToNatClampNeg, b01_0, b01_1, ne_2_0, ne_3_0, ne_4_0, ne_5_0, ne_6_0, ne_m1_0, ne_m2_0, b01_01, b01_n, lt_m2, lt_m1, le_m2, le_m1, Classical.not_not, j_Tok_isLineWord_0, b_Tok_isLineWord_0, j_Tok_isLineWord_58, b_Tok_isLineWord_58, j_Tok_isLineWord_59, b_Tok_isLineWord_59, an_0, an_1, cl_0, cl_1, ne_0_1, ne_1_0, sh_13, vi_0, vi_1]
  refine c_Tok_spells cq_plunge hT hk hp ?_
  simp only [cp_kk, cp_vc, cp_vs, cp_jm, cp_ent_en, cp_en_int, cp_en_ref, cp_en_ret, cp_en_long, cp_en_nil, cp_s1_at, cp_s2_at, cp_nl_int, cp_nl_ref, cp_nl_long, cp_nl_none, cp_pop_0, cp_pop_s, reduceIte, if_true, if_false, Bool.false_eq_true, Bool.true_eq_false, false_implies, implies_true, forall_const, true_implies, true_and, and_true, and_self, true_or, or_true, false_or, or_false, Value.category, List.length_cons, List.length_nil, Option.toList_some, Option.toList_none, List.cons_append, List.nil_append, List.append_nil, Prod.mk.injEq, Nat.add_zero, Nat.zero_add, Nat.reduceAdd, Nat.reduceSub, Nat.reduceEqDiff, Nat.reduceLeDiff, Nat.reduceLT, Nat.le_refl, beq_self_eq_true, Nat.reduceBEq, ne_eq, not_true_eq_false, not_false_eq_true, Int32.reduceAdd, Int32.reduceSub, Int32.reduceMul, Int32.reduceLE, Int32.reduceLT, Int32.reduceToNatClampNeg, b01_0, b01_1, ne_2_0, ne_3_0, ne_4_0, ne_5_0, ne_6_0, ne_m1_0, ne_m2_0, b01_01, b01_n, lt_m2, lt_m1, le_m2, le_m1, Classical.not_not, Bool.or_false, Bool.false_or, Bool.true_or, Bool.or_true, j_Tok_isLineWord_0, b_Tok_isLineWord_0, j_Tok_isLineWord_58, b_Tok_isLineWord_58, j_Tok_isLineWord_59, b_Tok_isLineWord_59, an_0, an_1, cl_0, cl_1, ne_0_1, ne_1_0, sh_13, vi_0, vi_1]
  refine ⟨fun b => yes (by simp [lnw, b]), fun b1 => ?_⟩
  refine c_Tok_spells cq_bather hT hk hp ?_
  simp only [cp_kk, cp_vc, cp_vs, cp_jm, cp_ent_en, cp_en_int, cp_en_ref, cp_en_ret, cp_en_long, cp_en_nil, cp_s1_at, cp_s2_at, cp_nl_int, cp_nl_ref, cp_nl_long, cp_nl_none, cp_pop_0, cp_pop_s, reduceIte, if_true, if_false, Bool.false_eq_true, Bool.true_eq_false, false_implies, implies_true, forall_const, true_implies, true_and, and_true, and_self, true_or, or_true, false_or, or_false, Value.category, List.length_cons, List.length_nil, Option.toList_some, Option.toList_none, List.cons_append, List.nil_append, List.append_nil, Prod.mk.injEq, Nat.add_zero, Nat.zero_add, Nat.reduceAdd, Nat.reduceSub, Nat.reduceEqDiff, Nat.reduceLeDiff, Nat.reduceLT, Nat.le_refl, beq_self_eq_true, Nat.reduceBEq, ne_eq, not_true_eq_false, not_false_eq_true, Int32.reduceAdd, Int32.reduceSub, Int32.reduceMul, Int32.reduceLE, Int32.reduceLT, Int32.reduceToNatClampNeg, b01_0, b01_1, ne_2_0, ne_3_0, ne_4_0, ne_5_0, ne_6_0, ne_m1_0, ne_m2_0, b01_01, b01_n, lt_m2, lt_m1, le_m2, le_m1, Classical.not_not, Bool.or_false, Bool.false_or, Bool.true_or, Bool.or_true, j_Tok_isLineWord_0, b_Tok_isLineWord_0, j_Tok_isLineWord_58, b_Tok_isLineWord_58, j_Tok_isLineWord_59, b_Tok_isLineWord_59, an_0, an_1, cl_0, cl_1, ne_0_1, ne_1_0, sh_13, vi_0, vi_1]
  refine ⟨fun b => yes (by simp [lnw, b]), fun b2 => ?_⟩
  refine c_Tok_spells cq_knows hT hk hp ?_
  simp only [cp_kk, cp_vc, cp_vs, cp_jm, cp_ent_en, cp_en_int, cp_en_ref, cp_en_ret, cp_en_long, cp_en_nil, cp_s1_at, cp_s2_at, cp_nl_int, cp_nl_ref, cp_nl_long, cp_nl_none, cp_pop_0, cp_pop_s, reduceIte, if_true, if_false, Bool.false_eq_true, Bool.true_eq_false, false_implies, implies_true, forall_const, true_implies, true_and, and_true, and_self, true_or, or_true, false_or, or_false, Value.category, List.length_cons, List.length_nil, Option.toList_some, Option.toList_none, List.cons_append, List.nil_append, List.append_nil, Prod.mk.injEq, Nat.add_zero, Nat.zero_add, Nat.reduceAdd, Nat.reduceSub, Nat.reduceEqDiff, Nat.reduceLeDiff, Nat.reduceLT, Nat.le_refl, beq_self_eq_true, Nat.reduceBEq, ne_eq, not_true_eq_false, not_false_eq_true, Int32.reduceAdd, Int32.reduceSub, Int32.reduceMul, Int32.reduceLE, Int32.reduceLT, Int32.reduceToNatClampNeg, b01_0, b01_1, ne_2_0, ne_3_0, ne_4_0, ne_5_0, ne_6_0, ne_m1_0, ne_m2_0, b01_01, b01_n, lt_m2, lt_m1, le_m2, le_m1, Classical.not_not, Bool.or_false, Bool.false_or, Bool.true_or, Bool.or_true, j_Tok_isLineWord_0, b_Tok_isLineWord_0, j_Tok_isLineWord_58, b_Tok_isLineWord_58, j_Tok_isLineWord_59, b_Tok_isLineWord_59, an_0, an_1, cl_0, cl_1, ne_0_1, ne_1_0, sh_13, vi_0, vi_1]
  refine ⟨fun b => yes (by simp [lnw, b]), fun b3 => ?_⟩
  refine c_Tok_spells cq_foes hT hk hp ?_
  simp only [cp_kk, cp_vc, cp_vs, cp_jm, cp_ent_en, cp_en_int, cp_en_ref, cp_en_ret, cp_en_long, cp_en_nil, cp_s1_at, cp_s2_at, cp_nl_int, cp_nl_ref, cp_nl_long, cp_nl_none, cp_pop_0, cp_pop_s, reduceIte, if_true, if_false, Bool.false_eq_true, Bool.true_eq_false, false_implies, implies_true, forall_const, true_implies, true_and, and_true, and_self, true_or, or_true, false_or, or_false, Value.category, List.length_cons, List.length_nil, Option.toList_some, Option.toList_none, List.cons_append, List.nil_append, List.append_nil, Prod.mk.injEq, Nat.add_zero, Nat.zero_add, Nat.reduceAdd, Nat.reduceSub, Nat.reduceEqDiff, Nat.reduceLeDiff, Nat.reduceLT, Nat.le_refl, beq_self_eq_true, Nat.reduceBEq, ne_eq, not_true_eq_false, not_false_eq_true, Int32.reduceAdd, Int32.reduceSub, Int32.reduceMul, Int32.reduceLE, Int32.reduceLT, Int32.reduceToNatClampNeg, b01_0, b01_1, ne_2_0, ne_3_0, ne_4_0, ne_5_0, ne_6_0, ne_m1_0, ne_m2_0, b01_01, b01_n, lt_m2, lt_m1, le_m2, le_m1, Classical.not_not, Bool.or_false, Bool.false_or, Bool.true_or, Bool.or_true, j_Tok_isLineWord_0, b_Tok_isLineWord_0, j_Tok_isLineWord_58, b_Tok_isLineWord_58, j_Tok_isLineWord_59, b_Tok_isLineWord_59, an_0, an_1, cl_0, cl_1, ne_0_1, ne_1_0, sh_13, vi_0, vi_1]
  refine ⟨fun b => yes (by simp [lnw, b]), fun b4 => ?_⟩
  refine c_Tok_spells cq_unsure hT hk hp ?_
  simp only [cp_kk, cp_vc, cp_vs, cp_jm, cp_ent_en, cp_en_int, cp_en_ref, cp_en_ret, cp_en_long, cp_en_nil, cp_s1_at, cp_s2_at, cp_nl_int, cp_nl_ref, cp_nl_long, cp_nl_none, cp_pop_0, cp_pop_s, reduceIte, if_true, if_false, Bool.false_eq_true, Bool.true_eq_false, false_implies, implies_true, forall_const, true_implies, true_and, and_true, and_self, true_or, or_true, false_or, or_false, Value.category, List.length_cons, List.length_nil, Option.toList_some, Option.toList_none, List.cons_append, List.nil_append, List.append_nil, Prod.mk.injEq, Nat.add_zero, Nat.zero_add, Nat.reduceAdd, Nat.reduceSub, Nat.reduceEqDiff, Nat.reduceLeDiff, Nat.reduceLT, Nat.le_refl, beq_self_eq_true, Nat.reduceBEq, ne_eq, not_true_eq_false, not_false_eq_true, Int32.reduceAdd, Int32.reduceSub, Int32.reduceMul, Int32.reduceLE, Int32.reduceLT, Int32.reduceToNatClampNeg, b01_0, b01_1, ne_2_0, ne_3_0, ne_4_0, ne_5_0, ne_6_0, ne_m1_0, ne_m2_0, b01_01, b01_n, lt_m2, lt_m1, le_m2, le_m1, Classical.not_not, Bool.or_false, Bool.false_or, Bool.true_or, Bool.or_true, j_Tok_isLineWord_0, b_Tok_isLineWord_0, j_Tok_isLineWord_58, b_Tok_isLineWord_58, j_Tok_isLineWord_59, b_Tok_isLineWord_59, an_0, an_1, cl_0, cl_1, ne_0_1, ne_1_0, sh_13, vi_0, vi_1]
  refine ⟨fun b => yes (by simp [lnw, b]), fun b5 => ?_⟩
  refine c_Tok_spells cq_felt hT hk hp ?_
  simp only [cp_kk, cp_vc, cp_vs, cp_jm, cp_ent_en, cp_en_int, cp_en_ref, cp_en_ret, cp_en_long, cp_en_nil, cp_s1_at, cp_s2_at, cp_nl_int, cp_nl_ref, cp_nl_long, cp_nl_none, cp_pop_0, cp_pop_s, reduceIte, if_true, if_false, Bool.false_eq_true, Bool.true_eq_false, false_implies, implies_true, forall_const, true_implies, true_and, and_true, and_self, true_or, or_true, false_or, or_false, Value.category, List.length_cons, List.length_nil, Option.toList_some, Option.toList_none, List.cons_append, List.nil_append, List.append_nil, Prod.mk.injEq, Nat.add_zero, Nat.zero_add, Nat.reduceAdd, Nat.reduceSub, Nat.reduceEqDiff, Nat.reduceLeDiff, Nat.reduceLT, Nat.le_refl, beq_self_eq_true, Nat.reduceBEq, ne_eq, not_true_eq_false, not_false_eq_true, Int32.reduceAdd, Int32.reduceSub, Int32.reduceMul, Int32.reduceLE, Int32.reduceLT, Int32.reduceToNatClampNeg, b01_0, b01_1, ne_2_0, ne_3_0, ne_4_0, ne_5_0, ne_6_0, ne_m1_0, ne_m2_0, b01_01, b01_n, lt_m2, lt_m1, le_m2, le_m1, Classical.not_not, Bool.or_false, Bool.false_or, Bool.true_or, Bool.or_true, j_Tok_isLineWord_0, b_Tok_isLineWord_0, j_Tok_isLineWord_58, b_Tok_isLineWord_58, j_Tok_isLineWord_59, b_Tok_isLineWord_59, an_0, an_1, cl_0, cl_1, ne_0_1, ne_1_0, sh_13, vi_0, vi_1]
  refine ⟨fun b6 => ?_, fun b => yes (by simp [lnw, b])⟩
  rw [if_neg (by simp [lnw, b1, b2, b3, b4, b5, b6])] at hq
  exact hq
/-! a word as a number -/
def pkf (f : Nat → Nat) : Nat → Nat
  | 0 => 0
  | k + 1 => 32 * pkf f k + (f k - 96)
def pkL (w : List Nat) : Nat := pkf (fun i => w.getD i 0) w.length
theorem pkf_c {f h : Nat → Nat} : ∀ k, (∀ i, i < k → f i = h i) → pkf f k = pkf h k
  | 0, _ => rfl
  | k + 1, e => by rw [pkf, pkf, pkf_c k (fun i hi => e i (by omega)), e k (by omega)]
theorem pkf_inj {f h : Nat → Nat} : ∀ (k m : Nat), (∀ i, i < k → isSm (f i) = true) → (∀ i, i < m → isSm (h i) = true) → pkf f k = pkf h m → k = m ∧ ∀ i, i < k → f i = h i
  | 0, 0, _, _, _ => ⟨rfl, fun i hi => by omega⟩
  | 0, m + 1, _, h2, e => by
    have := h2 m (by omega)
    simp only [isSm, Bool.and_eq_true, decide_eq_true_eq] at this
    rw [pkf, pkf] at e
    omega
  | k + 1, 0, h1, _, e => by
    have := h1 k (by omega)
    simp only [isSm, Bool.and_eq_true, decide_eq_true_eq] at this
    rw [pkf, pkf] at e
    omega
  | k + 1, m + 1, h1, h2, e => by
    have a1 := h1 k (by omega)
    have a2 := h2 m (by omega)
    simp only [isSm, Bool.and_eq_true, decide_eq_true_eq] at a1 a2
    rw [pkf, pkf] at e
    have e1 : pkf f k = pkf h m := by omega
    have e2 : f k = h m := by omega
    obtain ⟨r1, r2⟩ := pkf_inj k m (fun i hi => h1 i (by omega)) (fun i hi => h2 i (by omega)) e1
    subst r1
    refine ⟨rfl, fun i hi => ?_⟩
    by_cases q : i = k
    · rw [q]
      exact e2
    · exact r2 i (by omega)
theorem pkf_lt {f : Nat → Nat} : ∀ k, (∀ i, i < k → isSm (f i) = true) → pkf f k < 32 ^ k
  | 0, _ => by simp [pkf]
  | k + 1, h => by
    have h1 := pkf_lt k (fun i hi => h i (by omega))
    have a1 := h k (by omega)
    simp only [isSm, Bool.and_eq_true, decide_eq_true_eq] at a1
    rw [pkf, Nat.pow_succ]
    omega
theorem pk_wd (T : Nat → Nat) (n p : Nat) : pkL (wd T n p) = pkf (fun i => T (ta T n p + i)) (te T n p - ta T n p) := by
  unfold pkL
  rw [wd_len]
  exact pkf_c _ (fun i hi => wd_get hi)
theorem lp_Tok_packed (hT : cTx T n I) (hk : cTk T n p I) (h2 : ts T n p = 2) : ∀ (m k : Nat) (L : cp_Lo), k + m = te T n p - ta T n p → L 0 = some (.ref 13) → L 1 = some (.long (lN (pkf (fun i => T (ta T n p + i)) k))) → L 3 = some (.int (nI (ta T n p + k))) →
    Q (some (.long (lN (pkL (wd T n p))))) SH I J (PP t u r 1) → RW g false (d + 1) 0 0 m_Tok_packedWord 0 0 7 L [] SH I J (PP t u r 1) Q := by
  obtain ⟨h3, h4, h5, h6⟩ := hk
  obtain ⟨k1, k2, k3, k4⟩ := ts2 h2
  have hn := hT.1
  intro m
  induction m with
  | zero =>
    intro k L hk l0 l1 l3 hq
    have c1 : nI (te T n p) ≤ nI (ta T n p + k) := nI_le (by omega) (by omega)
    refine cp_run 20 (fun t => t == 7) ck_Tok_packedWord ?_
    rw [j_Tok_packedWord_7, b_Tok_packedWord_7]
    simp only [cp_vc, cp_vs, cp_jm, cp_ent_en, cp_en_int, cp_en_ref, cp_en_ret, cp_en_long, cp_en_nil, cp_s1_at, cp_s2_at, cp_nl_int, cp_nl_ref, cp_nl_long, cp_nl_none, cp_pop_0, cp_pop_s, reduceIte, if_true, if_false, Bool.false_eq_true, Bool.true_eq_false, false_implies, implies_true, forall_const, true_implies, true_and, and_true, and_self, true_or, or_true, false_or, or_false, Value.category, List.length_cons, List.length_nil, Option.toList_some, Option.toList_none, List.cons_append, List.nil_append, List.append_nil, Prod.mk.injEq, Nat.add_zero, Nat.zero_add, Nat.reduceAdd, Nat.reduceSub, Nat.reduceEqDiff, Nat.reduceLeDiff, Nat.reduceLT, Nat.le_refl, beq_self_eq_true, Nat.reduceBEq, ne_eq, not_true_eq_false, not_false_eq_true, Int32.reduceAdd, Int32.reduceSub, Int32.reduceMul, Int32.reduceLE, Int32.reduceLT, Int32.reduceToNatClampNeg, b01_0, b01_1, ne_2_0, ne_3_0, ne_4_0, ne_5_0, ne_6_0, ne_m1_0, ne_m2_0, b01_01, b01_n, lt_m2, lt_m1, le_m2, le_m1, Classical.not_not, j_Tok_packedWord_0, b_Tok_packedWord_0, j_Tok_packedWord_40, b_Tok_packedWord_40, an_0, an_1, cl_1, cl_97, ne_0_1, ne_1_0, pp_13_0, sh_13, vi_1, vi_97, l0, l1, l3, h4, c1]
    rw [show k = te T n p - ta T n p by omega, ← pk_wd]
    exact hq
  | succ m ih =>
    intro k L hk l0 l1 l3 hq
    have c1 : ¬ nI (te T n p) ≤ nI (ta T n p + k) := nI_ge (by omega) (by omega)
    have hsm := k4 (ta T n p + k) (by omega) (by omega)
    simp only [isSm, Bool.and_eq_true, decide_eq_true_eq] at hsm
    have t1 : I 1 (ta T n p + k) = nI (T (ta T n p + k)) := by
      rw [(hT.2 (ta T n p + k) (by omega)).1]
      exact b8_lt (by omega)
    have e1 : nI (T (ta T n p + k)) - 97 + 1 = nI (T (ta T n p + k) - 96) := by
      rw [show (97 : Int32) = nI 97 from rfl, pk_sub (by omega), nI_1, show T (ta T n p + k) - 97 + 1 = T (ta T n p + k) - 96 by omega]
    have e2 : (nI (T (ta T n p + k) - 96)).toInt64 = lN (T (ta T n p + k) - 96) := nI_l (by omega)
    have e3 : lN (pkf (fun i => T (ta T n p + i)) k) * 32 + lN (T (ta T n p + k) - 96) = lN (pkf (fun i => T (ta T n p + i)) (k + 1)) := by
      rw [show (32 : Int64) = lN 32 from rfl, lN_mul, lN_add, pkf, Nat.mul_comm]
    refine cp_run 40 (fun t => t == 7) ck_Tok_packedWord ?_
    rw [j_Tok_packedWord_7, b_Tok_packedWord_7]
    simp only [cp_vc, cp_vs, cp_jm, cp_ent_en, cp_en_int, cp_en_ref, cp_en_ret, cp_en_long, cp_en_nil, cp_s1_at, cp_s2_at, cp_nl_int, cp_nl_ref, cp_nl_long, cp_nl_none, cp_pop_0, cp_pop_s, reduceIte, if_true, if_false, Bool.false_eq_true, Bool.true_eq_false, false_implies, implies_true, forall_const, true_implies, true_and, and_true, and_self, true_or, or_true, false_or, or_false, Value.category, List.length_cons, List.length_nil, Option.toList_some, Option.toList_none, List.cons_append, List.nil_append, List.append_nil, Prod.mk.injEq, Nat.add_zero, Nat.zero_add, Nat.reduceAdd, Nat.reduceSub, Nat.reduceEqDiff, Nat.reduceLeDiff, Nat.reduceLT, Nat.le_refl, beq_self_eq_true, Nat.reduceBEq, ne_eq, not_true_eq_false, not_false_eq_true, Int32.reduceAdd, Int32.reduceSub, Int32.reduceMul, Int32.reduceLE, Int32.reduceLT, Int32.reduceToNatClampNeg, b01_0, b01_1, ne_2_0, ne_3_0, ne_4_0, ne_5_0, ne_6_0, ne_m1_0, ne_m2_0, b01_01, b01_n, lt_m2, lt_m1, le_m2, le_m1, Classical.not_not, j_Tok_packedWord_0, b_Tok_packedWord_0, j_Tok_packedWord_40, b_Tok_packedWord_40, an_0, an_1, cl_1, cl_97, ne_0_1, ne_1_0, pp_13_0, sh_13, vi_1, vi_97, l0, l1, l3, h4, c1, pp_13_0, sh_1, vin (show ta T n p + k < 900 by omega) (by omega), ncl (show ta T n p + k < 1000 by omega), t1, e1, e2, e3, nI_1]
    refine ih (k + 1) _ (by omega) ?_ ?_ ?_ hq
    · simp [cp_s1_at, cp_s2_at, cp_nl_ref, l0]
    · simp [cp_s1_at, cp_s2_at, cp_nl_long]
    · simp [cp_s1_at]
      rfl
theorem c_Tok_packed (hT : cTx T n I) (hk : cTk T n p I) (h2 : ts T n p = 2) (h : Q (some (.long (lN (pkL (wd T n p))))) SH I J (PP t u r 1)) : MW g false (d + 1) 0 0 m_Tok_packedWord [.ref 13] SH I J (PP t u r 1) Q := by
  have h5 := hk.2.2.1
  refine MW.of ok_Tok_packedWord (Nat.le_of_ble_eq_true rfl) ?_
  refine cp_run 20 (fun t => t == 7) ck_Tok_packedWord ?_
  simp only [cp_vc, cp_vs, cp_jm, cp_ent_en, cp_en_int, cp_en_ref, cp_en_ret, cp_en_long, cp_en_nil, cp_s1_at, cp_s2_at, cp_nl_int, cp_nl_ref, cp_nl_long, cp_nl_none, cp_pop_0, cp_pop_s, reduceIte, if_true, if_false, Bool.false_eq_true, Bool.true_eq_false, false_implies, implies_true, forall_const, true_implies, true_and, and_true, and_self, true_or, or_true, false_or, or_false, Value.category, List.length_cons, List.length_nil, Option.toList_some, Option.toList_none, List.cons_append, List.nil_append, List.append_nil, Prod.mk.injEq, Nat.add_zero, Nat.zero_add, Nat.reduceAdd, Nat.reduceSub, Nat.reduceEqDiff, Nat.reduceLeDiff, Nat.reduceLT, Nat.le_refl, beq_self_eq_true, Nat.reduceBEq, ne_eq, not_true_eq_false, not_false_eq_true, Int32.reduceAdd, Int32.reduceSub, Int32.reduceMul, Int32.reduceLE, Int32.reduceLT, Int32.reduceToNatClampNeg, b01_0, b01_1, ne_2_0, ne_3_0, ne_4_0, ne_5_0, ne_6_0, ne_m1_0, ne_m2_0, b01_01, b01_n, lt_m2, lt_m1, le_m2, le_m1, Classical.not_not, j_Tok_packedWord_0, b_Tok_packedWord_0, j_Tok_packedWord_40, b_Tok_packedWord_40, an_0, an_1, cl_1, cl_97, ne_0_1, ne_1_0, pp_13_0, sh_13, vi_1, vi_97, h5]
  refine lp_Tok_packed hT hk h2 (te T n p - ta T n p) 0 _ (by omega) ?_ ?_ ?_ h
  · simp [cp_s1_at, cp_s2_at, cp_ent_en, cp_en_ref, cp_nl_ref]
  · simp [cp_s1_at, cp_s2_at, cp_nl_long]
    rfl
  · simp [cp_s1_at]
theorem lp_Tok_whole (hT : cTx T n I) (hk : cTk T n p I) (h2 : ts T n p = 3) : ∀ (m k : Nat) (L : cp_Lo), k + m = te T n p - ta T n p → L 0 = some (.ref 13) → L 1 = some (.int (nI (tvf T (ta T n p) k))) → L 2 = some (.int (nI (ta T n p + k))) →
    Q (some (.int (nI (tv T n p)))) SH I J (PP t u r 1) → RW g false (d + 1) 0 0 m_Tok_wholeValue 0 0 7 L [] SH I J (PP t u r 1) Q := by
  obtain ⟨h3, h4, h5, h6⟩ := hk
  obtain ⟨k1, k3, k4⟩ := ts3 h2
  have hn := hT.1
  have hae : ta T n p ≤ te T n p := tea_ge T n _
  intro m
  induction m with
  | zero =>
    intro k L hk l0 l1 l2 hq
    have c1 : nI (te T n p) ≤ nI (ta T n p + k) := nI_le (by omega) (by omega)
    refine cp_run 20 (fun t => t == 7) ck_Tok_wholeValue ?_
    rw [j_Tok_wholeValue_7, b_Tok_wholeValue_7]
    simp only [cp_vc, cp_vs, cp_jm, cp_ent_en, cp_en_int, cp_en_ref, cp_en_ret, cp_en_long, cp_en_nil, cp_s1_at, cp_s2_at, cp_nl_int, cp_nl_ref, cp_nl_long, cp_nl_none, cp_pop_0, cp_pop_s, reduceIte, if_true, if_false, Bool.false_eq_true, Bool.true_eq_false, false_implies, implies_true, forall_const, true_implies, true_and, and_true, and_self, true_or, or_true, false_or, or_false, Value.category, List.length_cons, List.length_nil, Option.toList_some, Option.toList_none, List.cons_append, List.nil_append, List.append_nil, Prod.mk.injEq, Nat.add_zero, Nat.zero_add, Nat.reduceAdd, Nat.reduceSub, Nat.reduceEqDiff, Nat.reduceLeDiff, Nat.reduceLT, Nat.le_refl, beq_self_eq_true, Nat.reduceBEq, ne_eq, not_true_eq_false, not_false_eq_true, Int32.reduceAdd, Int32.reduceSub, Int32.reduceMul, Int32.reduceLE, Int32.reduceLT, Int32.reduceToNatClampNeg, b01_0, b01_1, ne_2_0, ne_3_0, ne_4_0, ne_5_0, ne_6_0, ne_m1_0, ne_m2_0, b01_01, b01_n, lt_m2, lt_m1, le_m2, le_m1, Classical.not_not, j_Tok_wholeValue_0, b_Tok_wholeValue_0, j_Tok_wholeValue_36, b_Tok_wholeValue_36, an_0, an_1, an_10, cl_0, cl_10, cl_48, ne_0_1, ne_1_0, pp_13_0, sh_13, vi_0, vi_10, vi_48, l0, l1, l2, h4, c1]
    rw [show k = te T n p - ta T n p by omega]
    exact hq
  | succ m ih =>
    intro k L hk l0 l1 l2 hq
    have c1 : ¬ nI (te T n p) ≤ nI (ta T n p + k) := nI_ge (by omega) (by omega)
    have hsm := k4 (ta T n p + k) (by omega) (by omega)
    simp only [isDg, Bool.and_eq_true, decide_eq_true_eq] at hsm
    have t1 : I 1 (ta T n p + k) = nI (T (ta T n p + k)) := by
      rw [(hT.2 (ta T n p + k) (by omega)).1]
      exact b8_lt (by omega)
    have e3 : nI (tvf T (ta T n p) k) * 10 + (nI (T (ta T n p + k)) - 48) = nI (tvf T (ta T n p) (k + 1)) := by
      rw [show (10 : Int32) = nI 10 from rfl, pk_mul, show (48 : Int32) = nI 48 from rfl, pk_sub (by omega), nI_add, tvf, Nat.mul_comm]
    refine cp_run 40 (fun t => t == 7) ck_Tok_wholeValue ?_
    rw [j_Tok_wholeValue_7, b_Tok_wholeValue_7]
    simp only [cp_vc, cp_vs, cp_jm, cp_ent_en, cp_en_int, cp_en_ref, cp_en_ret, cp_en_long, cp_en_nil, cp_s1_at, cp_s2_at, cp_nl_int, cp_nl_ref, cp_nl_long, cp_nl_none, cp_pop_0, cp_pop_s, reduceIte, if_true, if_false, Bool.false_eq_true, Bool.true_eq_false, false_implies, implies_true, forall_const, true_implies, true_and, and_true, and_self, true_or, or_true, false_or, or_false, Value.category, List.length_cons, List.length_nil, Option.toList_some, Option.toList_none, List.cons_append, List.nil_append, List.append_nil, Prod.mk.injEq, Nat.add_zero, Nat.zero_add, Nat.reduceAdd, Nat.reduceSub, Nat.reduceEqDiff, Nat.reduceLeDiff, Nat.reduceLT, Nat.le_refl, beq_self_eq_true, Nat.reduceBEq, ne_eq, not_true_eq_false, not_false_eq_true, Int32.reduceAdd, Int32.reduceSub, Int32.reduceMul, Int32.reduceLE, Int32.reduceLT, Int32.reduceToNatClampNeg, b01_0, b01_1, ne_2_0, ne_3_0, ne_4_0, ne_5_0, ne_6_0, ne_m1_0, ne_m2_0, b01_01, b01_n, lt_m2, lt_m1, le_m2, le_m1, Classical.not_not, j_Tok_wholeValue_0, b_Tok_wholeValue_0, j_Tok_wholeValue_36, b_Tok_wholeValue_36, an_0, an_1, an_10, cl_0, cl_10, cl_48, ne_0_1, ne_1_0, pp_13_0, sh_13, vi_0, vi_10, vi_48, l0, l1, l2, h4, c1, pp_13_0, sh_1, vin (show ta T n p + k < 900 by omega) (by omega), ncl (show ta T n p + k < 1000 by omega), t1, e3, nI_1]
    refine ih (k + 1) _ (by omega) ?_ ?_ ?_ hq
    · simp [cp_s1_at, cp_nl_ref, l0]
    · simp [cp_s1_at, cp_nl_int]
    · simp [cp_s1_at]
      rfl
theorem c_Tok_whole (hT : cTx T n I) (hk : cTk T n p I) (h2 : ts T n p = 3) (h : Q (some (.int (nI (tv T n p)))) SH I J (PP t u r 1)) : MW g false (d + 1) 0 0 m_Tok_wholeValue [.ref 13] SH I J (PP t u r 1) Q := by
  have h5 := hk.2.2.1
  refine MW.of ok_Tok_wholeValue (Nat.le_of_ble_eq_true rfl) ?_
  refine cp_run 20 (fun t => t == 7) ck_Tok_wholeValue ?_
  simp only [cp_vc, cp_vs, cp_jm, cp_ent_en, cp_en_int, cp_en_ref, cp_en_ret, cp_en_long, cp_en_nil, cp_s1_at, cp_s2_at, cp_nl_int, cp_nl_ref, cp_nl_long, cp_nl_none, cp_pop_0, cp_pop_s, reduceIte, if_true, if_false, Bool.false_eq_true, Bool.true_eq_false, false_implies, implies_true, forall_const, true_implies, true_and, and_true, and_self, true_or, or_true, false_or, or_false, Value.category, List.length_cons, List.length_nil, Option.toList_some, Option.toList_none, List.cons_append, List.nil_append, List.append_nil, Prod.mk.injEq, Nat.add_zero, Nat.zero_add, Nat.reduceAdd, Nat.reduceSub, Nat.reduceEqDiff, Nat.reduceLeDiff, Nat.reduceLT, Nat.le_refl, beq_self_eq_true, Nat.reduceBEq, ne_eq, not_true_eq_false, not_false_eq_true, Int32.reduceAdd, Int32.reduceSub, Int32.reduceMul, Int32.reduceLE, Int32.reduceLT, Int32.reduceToNatClampNeg, b01_0, b01_1, ne_2_0, ne_3_0, ne_4_0, ne_5_0, ne_6_0, ne_m1_0, ne_m2_0, b01_01, b01_n, lt_m2, lt_m1, le_m2, le_m1, Classical.not_not, j_Tok_wholeValue_0, b_Tok_wholeValue_0, j_Tok_wholeValue_36, b_Tok_wholeValue_36, an_0, an_1, an_10, cl_0, cl_10, cl_48, ne_0_1, ne_1_0, pp_13_0, sh_13, vi_0, vi_10, vi_48, h5]
  refine lp_Tok_whole hT hk h2 (te T n p - ta T n p) 0 _ (by omega) ?_ ?_ ?_ h
  · simp [cp_s1_at, cp_ent_en, cp_en_ref, cp_nl_ref]
  · simp [cp_s1_at, cp_nl_int, tvf, nI_0]
  · simp [cp_s1_at]
theorem pp_set13 {c : Nat} : cp_u (PP t u r x) 13 0 (.ref c) = PP t u r c := by
  funext a k
  unfold cp_u PP
  by_cases h : a = 13 ∧ k = 0
  · simp [h]
  · simp [h]
theorem c_Tok_start (hT : cTx T n I) (h : ∀ M, (∀ a j, ¬ (a = 13 ∧ 1 ≤ j ∧ j ≤ 4) → M a j = I a j) → cTk T n 0 M → Q none SH M J (PP t u r 1)) : MW g false (d + 4) 0 0 m_Tok_start [.ref 13, .ref 1, .int (nI n)] SH I J (PP t u r x) Q := by
  have hn := hT.1
  have e9 : Int32.ofNat 900 = 900 := rfl
  have em : (if (900 : Int32) < nI n then 900 else nI n) = nI n := by
    have z : ¬ (900 : Int32) < nI n := nI_nlt (b := n) (a := 900) (by omega) (by omega)
    rw [if_neg z]
  have hT2 : cTx T n (cp_u (cp_u I 13 1 (nI n)) 13 2 0) := ⟨hn, fun k hk => by rw [cp_u_at, if_neg (by omega), cp_u_at, if_neg (by omega)]; exact hT.2 k hk⟩
  refine MW.of ok_Tok_start (Nat.le_of_ble_eq_true rfl) ?_
  refine cp_run 40 (fun _ => false) ck_Tok_start ?_
  simp only [cp_vc, cp_vs, cp_jm, cp_ent_en, cp_en_int, cp_en_ref, cp_en_ret, cp_en_long, cp_en_nil, cp_s1_at, cp_s2_at, cp_nl_int, cp_nl_ref, cp_nl_long, cp_nl_none, cp_pop_0, cp_pop_s, reduceIte, if_true, if_false, Bool.false_eq_true, Bool.true_eq_false, false_implies, implies_true, forall_const, true_implies, true_and, and_true, and_self, true_or, or_true, false_or, or_false, Value.category, List.length_cons, List.length_nil, Option.toList_some, Option.toList_none, List.cons_append, List.nil_append, List.append_nil, Prod.mk.injEq, Nat.add_zero, Nat.zero_add, Nat.reduceAdd, Nat.reduceSub, Nat.reduceEqDiff, Nat.reduceLeDiff, Nat.reduceLT, Nat.le_refl, beq_self_eq_true, Nat.reduceBEq, ne_eq, not_true_eq_false, not_false_eq_true, Int32.reduceAdd, Int32.reduceSub, Int32.reduceMul, Int32.reduceLE, Int32.reduceLT, Int32.reduceToNatClampNeg, b01_0, b01_1, ne_2_0, ne_3_0, ne_4_0, ne_5_0, ne_6_0, ne_m1_0, ne_m2_0, b01_01, b01_n, lt_m2, lt_m1, le_m2, le_m1, Classical.not_not, j_Tok_start_0, b_Tok_start_0, an_0, an_1, cl_0, ne_0_1, ne_1_0, pp_13_0, sh_13, vi_0, pp_set13, sh_1, e9, em]
  refine c_Tok_step (p := 0) hT2 (by simp [cp_u_at]) (by simp [cp_u_at, nI_0]) (by omega) ?_
  intro M k1 k2
  simp only [cp_kk, cp_vc, cp_vs, cp_jm, cp_ent_en, cp_en_int, cp_en_ref, cp_en_ret, cp_en_long, cp_en_nil, cp_s1_at, cp_s2_at, cp_nl_int, cp_nl_ref, cp_nl_long, cp_nl_none, cp_pop_0, cp_pop_s, reduceIte, if_true, if_false, Bool.false_eq_true, Bool.true_eq_false, false_implies, implies_true, forall_const, true_implies, true_and, and_true, and_self, true_or, or_true, false_or, or_false, Value.category, List.length_cons, List.length_nil, Option.toList_some, Option.toList_none, List.cons_append, List.nil_append, List.append_nil, Prod.mk.injEq, Nat.add_zero, Nat.zero_add, Nat.reduceAdd, Nat.reduceSub, Nat.reduceEqDiff, Nat.reduceLeDiff, Nat.reduceLT, Nat.le_refl, beq_self_eq_true, Nat.reduceBEq, ne_eq, not_true_eq_false, not_false_eq_true, Int32.reduceAdd, Int32.reduceSub, Int32.reduceMul, Int32.reduceLE, Int32.reduceLT, Int32.reduceToNatClampNeg, b01_0, b01_1, ne_2_0, ne_3_0, ne_4_0, ne_5_0, ne_6_0, ne_m1_0, ne_m2_0, b01_01, b01_n, lt_m2, lt_m1, le_m2, le_m1, Classical.not_not, Bool.or_false, Bool.false_or, Bool.true_or, Bool.or_true, j_Tok_start_0, b_Tok_start_0, an_0, an_1, cl_0, ne_0_1, ne_1_0, pp_13_0, sh_13, vi_0]
  refine h M (fun a j ha => ?_) k2
  rw [k1 a j (by omega), cp_u_at, if_neg (by omega), cp_u_at, if_neg (by omega)]
end Tok2
