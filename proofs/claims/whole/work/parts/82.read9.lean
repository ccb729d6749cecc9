section Read9
variable {g : cp_G} {d : Nat} {sh : cp_H} {I M : cp_I} {J J0 : cp_J} {P : cp_P} {Q : cp_QT} {t u r x : Nat} {T : Nat → Nat} {n p : Nat} {s : pS}
theorem c_Read_goesOn {hd : Int32} (hr : tk r) (hT : cTx T n I) (h : cO T n I r hd M J s)
    (h1 : ts T n s.1 = 59 → ∀ M', cO T n I r hd M' J (pnx T n s) → Q (some (.int 1)) SH M' J (PP t u r 1)) (h0 : ts T n s.1 = 0 → Q (some (.int 0)) SH M J (PP t u r 1)) (he : ¬ ts T n s.1 = 59 → ¬ ts T n s.1 = 0 → ∀ M', cE I r M' (1, ta T n s.1) → Q (some (.int 0)) SH M' J (PP t u r 1)) : MW g false (d + 4) 0 0 m_Read_goesOn [.ref 12] SH M J (PP t u r 1) Q := by
  obtain ⟨o1, o2, o3, o4, o5, o6, o7⟩ := id h
  have hs5 := srt_lt (ts T n s.1)
  have e0 : (nI (srt (ts T n s.1)) = 0) = (ts T n s.1 = 0) := by
    rw [← srt_0]
    exact eqN (b := 0) (by omega) (by omega)
  have k4 := o4.2.2.2
  refine MW.of ok_Read_goesOn (Nat.le_of_ble_eq_true rfl) ?_
  by_cases c0 : ts T n s.1 = 0
  · have e0' : nI (srt (ts T n s.1)) = 0 := by rw [e0]; exact c0
    rw [e0'] at k4
    refine cp_run 40 (fun _ => false) ck_Read_goesOn ?_
    simp only [cp_vc, cp_vs, cp_jm, cp_ent_en, cp_en_int, cp_en_ref, cp_en_ret, cp_en_long, cp_en_nil, cp_s1_at, cp_s2_at, cp_nl_int, cp_nl_ref, cp_nl_long, cp_nl_none, cp_pop_0, cp_pop_s, reduceIte, if_true, if_false, Bool.false_eq_true, Bool.true_eq_false, false_implies, implies_true, forall_const, true_implies, true_and, and_true, and_self, true_or, or_true, false_or, or_false, Value.category, List.length_cons, List.length_nil, Option.toList_some, Option.toList_none, List.cons_append, List.nil_append, List.append_nil, Prod.mk.injEq, Nat.add_zero, Nat.zero_add, Nat.reduceAdd, Nat.reduceSub, Nat.reduceEqDiff, Nat.reduceLeDiff, Nat.reduceLT, Nat.le_refl, beq_self_eq_true, Nat.reduceBEq, ne_eq, not_true_eq_false, not_false_eq_true, Int32.reduceAdd, Int32.reduceSub, Int32.reduceMul, Int32.reduceLE, Int32.reduceLT, Int32.reduceToNatClampNeg, b01_0, b01_1, ne_2_0, ne_3_0, ne_4_0, ne_5_0, ne_6_0, ne_m1_0, ne_m2_0, b01_01, b01_n, lt_m2, lt_m1, le_m2, le_m1, Classical.not_not, j_Read_goesOn_0, b_Read_goesOn_0, j_Read_goesOn_12, b_Read_goesOn_12, j_Read_goesOn_30, b_Read_goesOn_30, an_0, an_1, cl_0, cl_1, cl_59, ne_0_1, ne_1_0, pp_12_0, sh_12, sh_13, vi_0, vi_1, vi_59, k4]
    exact h0 c0
  · refine cp_run 40 (fun _ => false) ck_Read_goesOn ?_
    simp only [cp_vc, cp_vs, cp_jm, cp_ent_en, cp_en_int, cp_en_ref, cp_en_ret, cp_en_long, cp_en_nil, cp_s1_at, cp_s2_at, cp_nl_int, cp_nl_ref, cp_nl_long, cp_nl_none, cp_pop_0, cp_pop_s, reduceIte, if_true, if_false, Bool.false_eq_true, Bool.true_eq_false, false_implies, implies_true, forall_const, true_implies, true_and, and_true, and_self, true_or, or_true, false_or, or_false, Value.category, List.length_cons, List.length_nil, Option.toList_some, Option.toList_none, List.cons_append, List.nil_append, List.append_nil, Prod.mk.injEq, Nat.add_zero, Nat.zero_add, Nat.reduceAdd, Nat.reduceSub, Nat.reduceEqDiff, Nat.reduceLeDiff, Nat.reduceLT, Nat.le_refl, beq_self_eq_true, Nat.reduceBEq, ne_eq, not_true_eq_false, not_false_eq_true, Int32.reduceAdd, Int32.reduceSub, Int32.reduceMul, Int32.reduceLE, Int32.reduceLT, Int32.reduceToNatClampNeg, b01_0, b01_1, ne_2_0, ne_3_0, ne_4_0, ne_5_0, ne_6_0, ne_m1_0, ne_m2_0, b01_01, b01_n, lt_m2, lt_m1, le_m2, le_m1, Classical.not_not, j_Read_goesOn_0, b_Read_goesOn_0, j_Read_goesOn_12, b_Read_goesOn_12, j_Read_goesOn_30, b_Read_goesOn_30, an_0, an_1, cl_0, cl_1, cl_59, ne_0_1, ne_1_0, pp_12_0, sh_12, sh_13, vi_0, vi_1, vi_59, k4, e0, c0]
    refine c_Tok_isSign (d := d + 2) (c := 59) (by omega) (cRK_T o1 hr hT) o4 o7 ?_
    simp only [cp_kk, cp_vc, cp_vs, cp_jm, cp_ent_en, cp_en_int, cp_en_ref, cp_en_ret, cp_en_long, cp_en_nil, cp_s1_at, cp_s2_at, cp_nl_int, cp_nl_ref, cp_nl_long, cp_nl_none, cp_pop_0, cp_pop_s, reduceIte, if_true, if_false, Bool.false_eq_true, Bool.true_eq_false, false_implies, implies_true, forall_const, true_implies, true_and, and_true, and_self, true_or, or_true, false_or, or_false, Value.category, List.length_cons, List.length_nil, Option.toList_some, Option.toList_none, List.cons_append, List.nil_append, List.append_nil, Prod.mk.injEq, Nat.add_zero, Nat.zero_add, Nat.reduceAdd, Nat.reduceSub, Nat.reduceEqDiff, Nat.reduceLeDiff, Nat.reduceLT, Nat.le_refl, beq_self_eq_true, Nat.reduceBEq, ne_eq, not_true_eq_false, not_false_eq_true, Int32.reduceAdd, Int32.reduceSub, Int32.reduceMul, Int32.reduceLE, Int32.reduceLT, Int32.reduceToNatClampNeg, b01_0, b01_1, ne_2_0, ne_3_0, ne_4_0, ne_5_0, ne_6_0, ne_m1_0, ne_m2_0, b01_01, b01_n, lt_m2, lt_m1, le_m2, le_m1, Classical.not_not, Bool.or_false, Bool.false_or, Bool.true_or, Bool.or_true, j_Read_goesOn_0, b_Read_goesOn_0, j_Read_goesOn_12, b_Read_goesOn_12, j_Read_goesOn_30, b_Read_goesOn_30, an_0, an_1, cl_0, cl_1, cl_59, ne_0_1, ne_1_0, pp_12_0, sh_12, sh_13, vi_0, vi_1, vi_59]
    refine ⟨fun q => ?_, fun q => ?_⟩
    · refine c_Tok_step (cRK_T o1 hr hT) o4.1 o4.2.1 (te_le o7) ?_
      intro M1 f1 f2
      simp only [cp_kk, cp_vc, cp_vs, cp_jm, cp_ent_en, cp_en_int, cp_en_ref, cp_en_ret, cp_en_long, cp_en_nil, cp_s1_at, cp_s2_at, cp_nl_int, cp_nl_ref, cp_nl_long, cp_nl_none, cp_pop_0, cp_pop_s, reduceIte, if_true, if_false, Bool.false_eq_true, Bool.true_eq_false, false_implies, implies_true, forall_const, true_implies, true_and, and_true, and_self, true_or, or_true, false_or, or_false, Value.category, List.length_cons, List.length_nil, Option.toList_some, Option.toList_none, List.cons_append, List.nil_append, List.append_nil, Prod.mk.injEq, Nat.add_zero, Nat.zero_add, Nat.reduceAdd, Nat.reduceSub, Nat.reduceEqDiff, Nat.reduceLeDiff, Nat.reduceLT, Nat.le_refl, beq_self_eq_true, Nat.reduceBEq, ne_eq, not_true_eq_false, not_false_eq_true, Int32.reduceAdd, Int32.reduceSub, Int32.reduceMul, Int32.reduceLE, Int32.reduceLT, Int32.reduceToNatClampNeg, b01_0, b01_1, ne_2_0, ne_3_0, ne_4_0, ne_5_0, ne_6_0, ne_m1_0, ne_m2_0, b01_01, b01_n, lt_m2, lt_m1, le_m2, le_m1, Classical.not_not, Bool.or_false, Bool.false_or, Bool.true_or, Bool.or_true, j_Read_goesOn_0, b_Read_goesOn_0, j_Read_goesOn_12, b_Read_goesOn_12, j_Read_goesOn_30, b_Read_goesOn_30, an_0, an_1, cl_0, cl_1, cl_59, ne_0_1, ne_1_0, pp_12_0, sh_12, sh_13, vi_0, vi_1, vi_59]
      exact h1 q M1 (cO_k hr h (kR_k f1) (f1 12 3 (by omega)) f2 (te_le o7))
    · refine c_Read_meet (d := d + 2) o4.2.2.1 ?_
      intro M' f1 f2 f3
      simp only [cp_kk, cp_vc, cp_vs, cp_jm, cp_ent_en, cp_en_int, cp_en_ref, cp_en_ret, cp_en_long, cp_en_nil, cp_s1_at, cp_s2_at, cp_nl_int, cp_nl_ref, cp_nl_long, cp_nl_none, cp_pop_0, cp_pop_s, reduceIte, if_true, if_false, Bool.false_eq_true, Bool.true_eq_false, false_implies, implies_true, forall_const, true_implies, true_and, and_true, and_self, true_or, or_true, false_or, or_false, Value.category, List.length_cons, List.length_nil, Option.toList_some, Option.toList_none, List.cons_append, List.nil_append, List.append_nil, Prod.mk.injEq, Nat.add_zero, Nat.zero_add, Nat.reduceAdd, Nat.reduceSub, Nat.reduceEqDiff, Nat.reduceLeDiff, Nat.reduceLT, Nat.le_refl, beq_self_eq_true, Nat.reduceBEq, ne_eq, not_true_eq_false, not_false_eq_true, Int32.reduceAdd, Int32.reduceSub, Int32.reduceMul, Int32.reduceLE, Int32.reduceLT, Int32.reduceToNatClampNeg, b01_0, b01_1, ne_2_0, ne_3_0, ne_4_0, ne_5_0, ne_6_0, ne_m1_0, ne_m2_0, b01_01, b01_n, lt_m2, lt_m1, le_m2, le_m1, Classical.not_not, Bool.or_false, Bool.false_or, Bool.true_or, Bool.or_true, j_Read_goesOn_0, b_Read_goesOn_0, j_Read_goesOn_12, b_Read_goesOn_12, j_Read_goesOn_30, b_Read_goesOn_30, an_0, an_1, cl_0, cl_1, cl_59, ne_0_1, ne_1_0, pp_12_0, sh_12, sh_13, vi_0, vi_1, vi_59]
      exact he q c0 M' (cE_k o1 f1 f2 f3)
theorem pp_set12 {c : Nat} : cp_u (PP t u r x) 12 1 (.ref c) = PP t u c x := by
  funext a k
  unfold cp_u PP
  by_cases h : a = 12 ∧ k = 1
  · simp [h]
  · simp [h]
theorem lp_Read_text (hr : tk r) (hT : cTx T n I) (hE : ∀ M' J' e, p_text T n = .error e → cE I r M' e → (∀ a j, ¬ a = r + 1 → J' a j = J0 a j) → Q (some (.int e.1)) SH M' J' (PP t u r 1)) (hO : ∀ M' J' s, p_text T n = .ok s → wf0 s → pz s → cO T n I r (s.2.1 9) M' J' s → (∀ a j, ¬ a = r + 1 → J' a j = J0 a j) → Q (some (.int 0)) SH M' J' (PP t u r 1)) :
    ∀ (m k : Nat) (M : cp_I) (J : cp_J) (s : pS) (L : cp_Lo), k + m = 901 → 901 ≤ s.1 + m → cO T n I r (s.2.1 9) M J s → wf0 s → pz s → (∀ a j, ¬ a = r + 1 → J a j = J0 a j) → L 0 = some (.ref 12) → L 4 = some (.int 1) → L 5 = some (.int (nI k)) → eb (p_lines T n m s) (p_end (T := T) (n := n)) = p_text T n → RW g false (d + 10) 0 0 m_Read_readText 0 0 37 L [] SH M J (PP t u r 1) Q := by
  have hn := hT.1
  have endE : ∀ (e : pE) (M : cp_I) (J : cp_J) (L : cp_Lo) (k : Nat), ¬ e.1 = 0 → p_text T n = .error e → cE I r M e → (∀ a j, ¬ a = r + 1 → J a j = J0 a j) → L 0 = some (.ref 12) → L 4 = some (.int 0) → RW g false (d + 10) 0 0 m_Read_readText 0 0 37 L [] SH M J (PP t u r 1) Q := by
    intro e M J L k hne he hM hJ l0 l4
    have h3 := hM.2.1
    refine cp_run 30 (fun _ => false) ck_Read_readText ?_
    simp only [cp_vc, cp_vs, cp_jm, cp_ent_en, cp_en_int, cp_en_ref, cp_en_ret, cp_en_long, cp_en_nil, cp_s1_at, cp_s2_at, cp_nl_int, cp_nl_ref, cp_nl_long, cp_nl_none, cp_pop_0, cp_pop_s, reduceIte, if_true, if_false, Bool.false_eq_true, Bool.true_eq_false, false_implies, implies_true, forall_const, true_implies, true_and, and_true, and_self, true_or, or_true, false_or, or_false, Value.category, List.length_cons, List.length_nil, Option.toList_some, Option.toList_none, List.cons_append, List.nil_append, List.append_nil, Prod.mk.injEq, Nat.add_zero, Nat.zero_add, Nat.reduceAdd, Nat.reduceSub, Nat.reduceEqDiff, Nat.reduceLeDiff, Nat.reduceLT, Nat.le_refl, beq_self_eq_true, Nat.reduceBEq, ne_eq, not_true_eq_false, not_false_eq_true, Int32.reduceAdd, Int32.reduceSub, Int32.reduceMul, Int32.reduceLE, Int32.reduceLT, Int32.reduceToNatClampNeg, b01_0, b01_1, ne_2_0, ne_3_0, ne_4_0, ne_5_0, ne_6_0, ne_m1_0, ne_m2_0, b01_01, b01_n, lt_m2, lt_m1, le_m2, le_m1, Classical.not_not, j_Read_readText_0, b_Read_readText_0, j_Read_readText_37, b_Read_readText_37, j_Read_readText_68, b_Read_readText_68, j_Read_readText_69, b_Read_readText_69, j_Read_readText_77, b_Read_readText_77, j_Read_readText_101, b_Read_readText_101, an_0, an_1, an_6, cl_0, cl_1, cl_6, ne_0_1, ne_0_6, ne_1_0, ne_1_6, ne_6_0, ne_6_1, pp_12_0, pp_12_1, sh_12, sh_13, vi_0, vi_1, vi_6, l0, l4, h3, hne]
    exact hE M J e he hM hJ
  intro m
  induction m with
  | zero =>
    intro k M J s L hk hs h
    have := h.2.2.2.2.2.2
    omega
  | succ m ih =>
    intro k M J s L hk hs h hw hz hJ l0 l4 l5 he
    have c1 : ¬ (900 : Int32) < nI k := nI_nlt (b := k) (a := 900) (by omega) (by omega)
    rw [p_lines_s] at he
    refine cp_run 40 (fun t => t == 37) ck_Read_readText ?_
    rw [j_Read_readText_37, b_Read_readText_37]
    simp only [cp_vc, cp_vs, cp_jm, cp_ent_en, cp_en_int, cp_en_ref, cp_en_ret, cp_en_long, cp_en_nil, cp_s1_at, cp_s2_at, cp_nl_int, cp_nl_ref, cp_nl_long, cp_nl_none, cp_pop_0, cp_pop_s, reduceIte, if_true, if_false, Bool.false_eq_true, Bool.true_eq_false, false_implies, implies_true, forall_const, true_implies, true_and, and_true, and_self, true_or, or_true, false_or, or_false, Value.category, List.length_cons, List.length_nil, Option.toList_some, Option.toList_none, List.cons_append, List.nil_append, List.append_nil, Prod.mk.injEq, Nat.add_zero, Nat.zero_add, Nat.reduceAdd, Nat.reduceSub, Nat.reduceEqDiff, Nat.reduceLeDiff, Nat.reduceLT, Nat.le_refl, beq_self_eq_true, Nat.reduceBEq, ne_eq, not_true_eq_false, not_false_eq_true, Int32.reduceAdd, Int32.reduceSub, Int32.reduceMul, Int32.reduceLE, Int32.reduceLT, Int32.reduceToNatClampNeg, b01_0, b01_1, ne_2_0, ne_3_0, ne_4_0, ne_5_0, ne_6_0, ne_m1_0, ne_m2_0, b01_01, b01_n, lt_m2, lt_m1, le_m2, le_m1, Classical.not_not, j_Read_readText_0, b_Read_readText_0, j_Read_readText_68, b_Read_readText_68, j_Read_readText_69, b_Read_readText_69, j_Read_readText_77, b_Read_readText_77, j_Read_readText_101, b_Read_readText_101, an_0, an_1, an_6, cl_0, cl_1, cl_6, ne_0_1, ne_0_6, ne_1_0, ne_1_6, ne_6_0, ne_6_1, pp_12_0, pp_12_1, sh_12, sh_13, vi_0, vi_1, vi_6, l0, l4, l5, c1]
    refine c_Read_readLine hr hT h hw hz ?_
    intro M1 J1 b hL
    have hJ1 : ∀ y, cL T n I J r b M1 J1 y → ∀ a j, ¬ a = r + 1 → J1 a j = J0 a j := by
      intro y hy a j ha
      cases y with
      | error e => rw [hy.2.2 a j ha]; exact hJ a j ha
      | ok q => rw [hy.2.2 a j ha]; exact hJ a j ha
    have hJ1' := hJ1 _ hL
    cases hp : p_line T n s with
    | error e =>
      rw [hp] at hL he
      obtain ⟨rfl, hE1, -⟩ := hL
      have hne := eN_line s e hp
      simp only [cp_kk, cp_vc, cp_vs, cp_jm, cp_ent_en, cp_en_int, cp_en_ref, cp_en_ret, cp_en_long, cp_en_nil, cp_s1_at, cp_s2_at, cp_nl_int, cp_nl_ref, cp_nl_long, cp_nl_none, cp_pop_0, cp_pop_s, reduceIte, if_true, if_false, Bool.false_eq_true, Bool.true_eq_false, false_implies, implies_true, forall_const, true_implies, true_and, and_true, and_self, true_or, or_true, false_or, or_false, Value.category, List.length_cons, List.length_nil, Option.toList_some, Option.toList_none, List.cons_append, List.nil_append, List.append_nil, Prod.mk.injEq, Nat.add_zero, Nat.zero_add, Nat.reduceAdd, Nat.reduceSub, Nat.reduceEqDiff, Nat.reduceLeDiff, Nat.reduceLT, Nat.le_refl, beq_self_eq_true, Nat.reduceBEq, ne_eq, not_true_eq_false, not_false_eq_true, Int32.reduceAdd, Int32.reduceSub, Int32.reduceMul, Int32.reduceLE, Int32.reduceLT, Int32.reduceToNatClampNeg, b01_0, b01_1, ne_2_0, ne_3_0, ne_4_0, ne_5_0, ne_6_0, ne_m1_0, ne_m2_0, b01_01, b01_n, lt_m2, lt_m1, le_m2, le_m1, Classical.not_not, Bool.or_false, Bool.false_or, Bool.true_or, Bool.or_true, j_Read_readText_0, b_Read_readText_0, j_Read_readText_68, b_Read_readText_68, j_Read_readText_69, b_Read_readText_69, j_Read_readText_77, b_Read_readText_77, j_Read_readText_101, b_Read_readText_101, an_0, an_1, an_6, cl_0, cl_1, cl_6, ne_0_1, ne_0_6, ne_1_0, ne_1_6, ne_6_0, ne_6_1, pp_12_0, pp_12_1, sh_12, sh_13, vi_0, vi_1, vi_6, l0, l4, l5, nI_1]
      refine endE e M1 J1 _ (k + 1) hne he.symm hE1 hJ1' ?_ ?_ <;> simp [cp_s1_at, cp_nl_int, cp_nl_ref, l0]
    | ok a =>
      rw [hp] at hL he
      obtain ⟨rfl, hO1, -⟩ := hL
      obtain ⟨wa, ga⟩ := p_line_F hw hp
      have za := pz_line hw hz hp
      simp only [eb_ok, p_next] at he
      simp only [cp_kk, cp_vc, cp_vs, cp_jm, cp_ent_en, cp_en_int, cp_en_ref, cp_en_ret, cp_en_long, cp_en_nil, cp_s1_at, cp_s2_at, cp_nl_int, cp_nl_ref, cp_nl_long, cp_nl_none, cp_pop_0, cp_pop_s, reduceIte, if_true, if_false, Bool.false_eq_true, Bool.true_eq_false, false_implies, implies_true, forall_const, true_implies, true_and, and_true, and_self, true_or, or_true, false_or, or_false, Value.category, List.length_cons, List.length_nil, Option.toList_some, Option.toList_none, List.cons_append, List.nil_append, List.append_nil, Prod.mk.injEq, Nat.add_zero, Nat.zero_add, Nat.reduceAdd, Nat.reduceSub, Nat.reduceEqDiff, Nat.reduceLeDiff, Nat.reduceLT, Nat.le_refl, beq_self_eq_true, Nat.reduceBEq, ne_eq, not_true_eq_false, not_false_eq_true, Int32.reduceAdd, Int32.reduceSub, Int32.reduceMul, Int32.reduceLE, Int32.reduceLT, Int32.reduceToNatClampNeg, b01_0, b01_1, ne_2_0, ne_3_0, ne_4_0, ne_5_0, ne_6_0, ne_m1_0, ne_m2_0, b01_01, b01_n, lt_m2, lt_m1, le_m2, le_m1, Classical.not_not, Bool.or_false, Bool.false_or, Bool.true_or, Bool.or_true, j_Read_readText_0, b_Read_readText_0, j_Read_readText_68, b_Read_readText_68, j_Read_readText_69, b_Read_readText_69, j_Read_readText_77, b_Read_readText_77, j_Read_readText_101, b_Read_readText_101, an_0, an_1, an_6, cl_0, cl_1, cl_6, ne_0_1, ne_0_6, ne_1_0, ne_1_6, ne_6_0, ne_6_1, pp_12_0, pp_12_1, sh_12, sh_13, vi_0, vi_1, vi_6, l0, l4, l5]
      refine c_Read_goesOn (d := d + 5) hr hT hO1 ?_ ?_ ?_
      · intro q M2 hO2
        rw [if_pos q] at he
        simp only [cp_kk, cp_vc, cp_vs, cp_jm, cp_ent_en, cp_en_int, cp_en_ref, cp_en_ret, cp_en_long, cp_en_nil, cp_s1_at, cp_s2_at, cp_nl_int, cp_nl_ref, cp_nl_long, cp_nl_none, cp_pop_0, cp_pop_s, reduceIte, if_true, if_false, Bool.false_eq_true, Bool.true_eq_false, false_implies, implies_true, forall_const, true_implies, true_and, and_true, and_self, true_or, or_true, false_or, or_false, Value.category, List.length_cons, List.length_nil, Option.toList_some, Option.toList_none, List.cons_append, List.nil_append, List.append_nil, Prod.mk.injEq, Nat.add_zero, Nat.zero_add, Nat.reduceAdd, Nat.reduceSub, Nat.reduceEqDiff, Nat.reduceLeDiff, Nat.reduceLT, Nat.le_refl, beq_self_eq_true, Nat.reduceBEq, ne_eq, not_true_eq_false, not_false_eq_true, Int32.reduceAdd, Int32.reduceSub, Int32.reduceMul, Int32.reduceLE, Int32.reduceLT, Int32.reduceToNatClampNeg, b01_0, b01_1, ne_2_0, ne_3_0, ne_4_0, ne_5_0, ne_6_0, ne_m1_0, ne_m2_0, b01_01, b01_n, lt_m2, lt_m1, le_m2, le_m1, Classical.not_not, Bool.or_false, Bool.false_or, Bool.true_or, Bool.or_true, j_Read_readText_0, b_Read_readText_0, j_Read_readText_68, b_Read_readText_68, j_Read_readText_69, b_Read_readText_69, j_Read_readText_77, b_Read_readText_77, j_Read_readText_101, b_Read_readText_101, an_0, an_1, an_6, cl_0, cl_1, cl_6, ne_0_1, ne_0_6, ne_1_0, ne_1_6, ne_6_0, ne_6_1, pp_12_0, pp_12_1, sh_12, sh_13, vi_0, vi_1, vi_6, l0, l4, l5, nI_1]
        have g1 := ts59 q
        have g2 := ta_ge T n a.1
        refine ih (k + 1) M2 J1 (pnx T n a) _ (by omega) ?_ hO2 wa za hJ1' ?_ ?_ ?_ he
        · show 901 ≤ te T n a.1 + m
          omega
        · simp [cp_s1_at, cp_nl_int, cp_nl_ref, l0]
        · simp [cp_s1_at, cp_nl_int, cp_nl_ref]
        · simp [cp_s1_at, cp_nl_int, cp_nl_ref]
      · intro q
        rw [if_neg (by omega), if_pos q, eb_ok, p_end] at he
        obtain ⟨x1, x2, x3, x4, x5, x6, x7⟩ := id hO1
        have e4 : M1 r 4 = nI a.2.2.length := by rw [x5.1.2.2.2.2.1]; exact wa.2.1
        have hl6 := wa.1
        have c4 : (nI a.2.2.length = 0) = (a.2.2.length = 0) := eqN (b := 0) (by omega) (by omega)
        simp only [cp_kk, cp_vc, cp_vs, cp_jm, cp_ent_en, cp_en_int, cp_en_ref, cp_en_ret, cp_en_long, cp_en_nil, cp_s1_at, cp_s2_at, cp_nl_int, cp_nl_ref, cp_nl_long, cp_nl_none, cp_pop_0, cp_pop_s, reduceIte, if_true, if_false, Bool.false_eq_true, Bool.true_eq_false, false_implies, implies_true, forall_const, true_implies, true_and, and_true, and_self, true_or, or_true, false_or, or_false, Value.category, List.length_cons, List.length_nil, Option.toList_some, Option.toList_none, List.cons_append, List.nil_append, List.append_nil, Prod.mk.injEq, Nat.add_zero, Nat.zero_add, Nat.reduceAdd, Nat.reduceSub, Nat.reduceEqDiff, Nat.reduceLeDiff, Nat.reduceLT, Nat.le_refl, beq_self_eq_true, Nat.reduceBEq, ne_eq, not_true_eq_false, not_false_eq_true, Int32.reduceAdd, Int32.reduceSub, Int32.reduceMul, Int32.reduceLE, Int32.reduceLT, Int32.reduceToNatClampNeg, b01_0, b01_1, ne_2_0, ne_3_0, ne_4_0, ne_5_0, ne_6_0, ne_m1_0, ne_m2_0, b01_01, b01_n, lt_m2, lt_m1, le_m2, le_m1, Classical.not_not, Bool.or_false, Bool.false_or, Bool.true_or, Bool.or_true, j_Read_readText_0, b_Read_readText_0, j_Read_readText_68, b_Read_readText_68, j_Read_readText_69, b_Read_readText_69, j_Read_readText_77, b_Read_readText_77, j_Read_readText_101, b_Read_readText_101, an_0, an_1, an_6, cl_0, cl_1, cl_6, ne_0_1, ne_0_6, ne_1_0, ne_1_6, ne_6_0, ne_6_1, pp_12_0, pp_12_1, sh_12, sh_13, vi_0, vi_1, vi_6, l0, l4, l5, nI_1]
        by_cases cl : a.2.2.length = 0
        · rw [if_pos cl] at he
          rw [cl] at e4
          refine cp_run 40 (fun _ => false) ck_Read_readText ?_
          simp only [cp_vc, cp_vs, cp_jm, cp_ent_en, cp_en_int, cp_en_ref, cp_en_ret, cp_en_long, cp_en_nil, cp_s1_at, cp_s2_at, cp_nl_int, cp_nl_ref, cp_nl_long, cp_nl_none, cp_pop_0, cp_pop_s, reduceIte, if_true, if_false, Bool.false_eq_true, Bool.true_eq_false, false_implies, implies_true, forall_const, true_implies, true_and, and_true, and_self, true_or, or_true, false_or, or_false, Value.category, List.length_cons, List.length_nil, Option.toList_some, Option.toList_none, List.cons_append, List.nil_append, List.append_nil, Prod.mk.injEq, Nat.add_zero, Nat.zero_add, Nat.reduceAdd, Nat.reduceSub, Nat.reduceEqDiff, Nat.reduceLeDiff, Nat.reduceLT, Nat.le_refl, beq_self_eq_true, Nat.reduceBEq, ne_eq, not_true_eq_false, not_false_eq_true, Int32.reduceAdd, Int32.reduceSub, Int32.reduceMul, Int32.reduceLE, Int32.reduceLT, Int32.reduceToNatClampNeg, b01_0, b01_1, ne_2_0, ne_3_0, ne_4_0, ne_5_0, ne_6_0, ne_m1_0, ne_m2_0, b01_01, b01_n, lt_m2, lt_m1, le_m2, le_m1, Classical.not_not, j_Read_readText_0, b_Read_readText_0, j_Read_readText_37, b_Read_readText_37, j_Read_readText_68, b_Read_readText_68, j_Read_readText_69, b_Read_readText_69, j_Read_readText_77, b_Read_readText_77, j_Read_readText_101, b_Read_readText_101, an_0, an_1, an_6, cl_0, cl_1, cl_6, ne_0_1, ne_0_6, ne_1_0, ne_1_6, ne_6_0, ne_6_1, pp_12_0, pp_12_1, sh_12, sh_13, vi_0, vi_1, vi_6, cp_s1_at, cp_nl_int, cp_nl_ref, l0, x3, pp_12_1, sT0 hr, sT1 hr, sT2 hr, sT3 hr, sT4 hr, sT5 hr, sT6 hr, sT7 hr, sT8 hr, sT9 hr, pT1 hr, pT2 hr, pT3 hr, pT4 hr, pT5 hr, pT6 hr, pT7 hr, pT8 hr, pT9 hr, e4, nI_0]
          refine c_Read_meet (d := d + 8) x4.2.2.1 ?_
          intro M2 f1 f2 f3
          simp only [cp_kk, cp_vc, cp_vs, cp_jm, cp_ent_en, cp_en_int, cp_en_ref, cp_en_ret, cp_en_long, cp_en_nil, cp_s1_at, cp_s2_at, cp_nl_int, cp_nl_ref, cp_nl_long, cp_nl_none, cp_pop_0, cp_pop_s, reduceIte, if_true, if_false, Bool.false_eq_true, Bool.true_eq_false, false_implies, implies_true, forall_const, true_implies, true_and, and_true, and_self, true_or, or_true, false_or, or_false, Value.category, List.length_cons, List.length_nil, Option.toList_some, Option.toList_none, List.cons_append, List.nil_append, List.append_nil, Prod.mk.injEq, Nat.add_zero, Nat.zero_add, Nat.reduceAdd, Nat.reduceSub, Nat.reduceEqDiff, Nat.reduceLeDiff, Nat.reduceLT, Nat.le_refl, beq_self_eq_true, Nat.reduceBEq, ne_eq, not_true_eq_false, not_false_eq_true, Int32.reduceAdd, Int32.reduceSub, Int32.reduceMul, Int32.reduceLE, Int32.reduceLT, Int32.reduceToNatClampNeg, b01_0, b01_1, ne_2_0, ne_3_0, ne_4_0, ne_5_0, ne_6_0, ne_m1_0, ne_m2_0, b01_01, b01_n, lt_m2, lt_m1, le_m2, le_m1, Classical.not_not, Bool.or_false, Bool.false_or, Bool.true_or, Bool.or_true, j_Read_readText_0, b_Read_readText_0, j_Read_readText_37, b_Read_readText_37, j_Read_readText_68, b_Read_readText_68, j_Read_readText_69, b_Read_readText_69, j_Read_readText_77, b_Read_readText_77, j_Read_readText_101, b_Read_readText_101, an_0, an_1, an_6, cl_0, cl_1, cl_6, ne_0_1, ne_0_6, ne_1_0, ne_1_6, ne_6_0, ne_6_1, pp_12_0, pp_12_1, sh_12, sh_13, vi_0, vi_1, vi_6, cp_s1_at, cp_nl_int, cp_nl_ref, l0, f2]
          exact hE M2 J1 (6, ta T n a.1) he.symm (cE_k x1 f1 f2 f3) hJ1'
        · rw [if_neg cl] at he
          refine cp_run 40 (fun _ => false) ck_Read_readText ?_
          simp only [cp_vc, cp_vs, cp_jm, cp_ent_en, cp_en_int, cp_en_ref, cp_en_ret, cp_en_long, cp_en_nil, cp_s1_at, cp_s2_at, cp_nl_int, cp_nl_ref, cp_nl_long, cp_nl_none, cp_pop_0, cp_pop_s, reduceIte, if_true, if_false, Bool.false_eq_true, Bool.true_eq_false, false_implies, implies_true, forall_const, true_implies, true_and, and_true, and_self, true_or, or_true, false_or, or_false, Value.category, List.length_cons, List.length_nil, Option.toList_some, Option.toList_none, List.cons_append, List.nil_append, List.append_nil, Prod.mk.injEq, Nat.add_zero, Nat.zero_add, Nat.reduceAdd, Nat.reduceSub, Nat.reduceEqDiff, Nat.reduceLeDiff, Nat.reduceLT, Nat.le_refl, beq_self_eq_true, Nat.reduceBEq, ne_eq, not_true_eq_false, not_false_eq_true, Int32.reduceAdd, Int32.reduceSub, Int32.reduceMul, Int32.reduceLE, Int32.reduceLT, Int32.reduceToNatClampNeg, b01_0, b01_1, ne_2_0, ne_3_0, ne_4_0, ne_5_0, ne_6_0, ne_m1_0, ne_m2_0, b01_01, b01_n, lt_m2, lt_m1, le_m2, le_m1, Classical.not_not, j_Read_readText_0, b_Read_readText_0, j_Read_readText_37, b_Read_readText_37, j_Read_readText_68, b_Read_readText_68, j_Read_readText_69, b_Read_readText_69, j_Read_readText_77, b_Read_readText_77, j_Read_readText_101, b_Read_readText_101, an_0, an_1, an_6, cl_0, cl_1, cl_6, ne_0_1, ne_0_6, ne_1_0, ne_1_6, ne_6_0, ne_6_1, pp_12_0, pp_12_1, sh_12, sh_13, vi_0, vi_1, vi_6, cp_s1_at, cp_nl_int, cp_nl_ref, l0, x3, pp_12_1, sT0 hr, sT1 hr, sT2 hr, sT3 hr, sT4 hr, sT5 hr, sT6 hr, sT7 hr, sT8 hr, sT9 hr, pT1 hr, pT2 hr, pT3 hr, pT4 hr, pT5 hr, pT6 hr, pT7 hr, pT8 hr, pT9 hr, e4, c4, cl]
          exact hO M1 J1 a he.symm wa za hO1 hJ1'
      · intro q q2 M2 hE2
        rw [if_neg q, if_neg q2, eb_err] at he
        simp only [cp_kk, cp_vc, cp_vs, cp_jm, cp_ent_en, cp_en_int, cp_en_ref, cp_en_ret, cp_en_long, cp_en_nil, cp_s1_at, cp_s2_at, cp_nl_int, cp_nl_ref, cp_nl_long, cp_nl_none, cp_pop_0, cp_pop_s, reduceIte, if_true, if_false, Bool.false_eq_true, Bool.true_eq_false, false_implies, implies_true, forall_const, true_implies, true_and, and_true, and_self, true_or, or_true, false_or, or_false, Value.category, List.length_cons, List.length_nil, Option.toList_some, Option.toList_none, List.cons_append, List.nil_append, List.append_nil, Prod.mk.injEq, Nat.add_zero, Nat.zero_add, Nat.reduceAdd, Nat.reduceSub, Nat.reduceEqDiff, Nat.reduceLeDiff, Nat.reduceLT, Nat.le_refl, beq_self_eq_true, Nat.reduceBEq, ne_eq, not_true_eq_false, not_false_eq_true, Int32.reduceAdd, Int32.reduceSub, Int32.reduceMul, Int32.reduceLE, Int32.reduceLT, Int32.reduceToNatClampNeg, b01_0, b01_1, ne_2_0, ne_3_0, ne_4_0, ne_5_0, ne_6_0, ne_m1_0, ne_m2_0, b01_01, b01_n, lt_m2, lt_m1, le_m2, le_m1, Classical.not_not, Bool.or_false, Bool.false_or, Bool.true_or, Bool.or_true, j_Read_readText_0, b_Read_readText_0, j_Read_readText_68, b_Read_readText_68, j_Read_readText_69, b_Read_readText_69, j_Read_readText_77, b_Read_readText_77, j_Read_readText_101, b_Read_readText_101, an_0, an_1, an_6, cl_0, cl_1, cl_6, ne_0_1, ne_0_6, ne_1_0, ne_1_6, ne_6_0, ne_6_1, pp_12_0, pp_12_1, sh_12, sh_13, vi_0, vi_1, vi_6, l0, l4, l5, nI_1]
        refine endE (1, ta T n a.1) M2 J1 _ (k + 1) z1 he.symm hE2 hJ1' ?_ ?_ <;> simp [cp_s1_at, cp_nl_int, cp_nl_ref, l0]
theorem c_Read_text (hu : tk u) (hT : cTx T n I) (hE : ∀ M' J' e, p_text T n = .error e → cE I u M' e → (∀ a j, ¬ a = u + 1 → J' a j = J a j) → Q (some (.int e.1)) SH M' J' (PP t u u 1)) (hO : ∀ M' J' s, p_text T n = .ok s → wf0 s → pz s → cO T n I u (s.2.1 9) M' J' s → (∀ a j, ¬ a = u + 1 → J' a j = J a j) → Q (some (.int 0)) SH M' J' (PP t u u 1)) : MW g false (d + 10) 0 0 m_Read_readText [.ref 12, .ref 1, .int (nI n), .ref u] SH I J (PP t u r x) Q := by
  have n0 := r_13 hu (k := 0) (by omega)
  have n4 := r_13 hu (k := 4) (by omega)
  refine MW.of ok_Read_readText (Nat.le_of_ble_eq_true rfl) ?_
  refine cp_run 60 (fun t => t == 37) ck_Read_readText ?_
  simp only [cp_vc, cp_vs, cp_jm, cp_ent_en, cp_en_int, cp_en_ref, cp_en_ret, cp_en_long, cp_en_nil, cp_s1_at, cp_s2_at, cp_nl_int, cp_nl_ref, cp_nl_long, cp_nl_none, cp_pop_0, cp_pop_s, reduceIte, if_true, if_false, Bool.false_eq_true, Bool.true_eq_false, false_implies, implies_true, forall_const, true_implies, true_and, and_true, and_self, true_or, or_true, false_or, or_false, Value.category, List.length_cons, List.length_nil, Option.toList_some, Option.toList_none, List.cons_append, List.nil_append, List.append_nil, Prod.mk.injEq, Nat.add_zero, Nat.zero_add, Nat.reduceAdd, Nat.reduceSub, Nat.reduceEqDiff, Nat.reduceLeDiff, Nat.reduceLT, Nat.le_refl, beq_self_eq_true, Nat.reduceBEq, ne_eq, not_true_eq_false, not_false_eq_true, Int32.reduceAdd, Int32.reduceSub, Int32.reduceMul, Int32.reduceLE, Int32.reduceLT, Int32.reduceToNatClampNeg, b01_0, b01_1, ne_2_0, ne_3_0, ne_4_0, ne_5_0, ne_6_0, ne_m1_0, ne_m2_0, b01_01, b01_n, lt_m2, lt_m1, le_m2, le_m1, Classical.not_not, j_Read_readText_0, b_Read_readText_0, j_Read_readText_68, b_Read_readText_68, j_Read_readText_69, b_Read_readText_69, j_Read_readText_77, b_Read_readText_77, j_Read_readText_101, b_Read_readText_101, an_0, an_1, an_6, cl_0, cl_1, cl_6, ne_0_1, ne_0_6, ne_1_0, ne_1_6, ne_6_0, ne_6_1, pp_12_0, pp_12_1, sh_12, sh_13, vi_0, vi_1, vi_6, pp_set12, pp_12_1, sT0 hu, sT1 hu, sT2 hu, sT3 hu, sT4 hu, sT5 hu, sT6 hu, sT7 hu, sT8 hu, sT9 hu, pT1 hu, pT2 hu, pT3 hu, pT4 hu, pT5 hu, pT6 hu, pT7 hu, pT8 hu, pT9 hu]
  refine c_Told_clear (d := d + 8) hu ?_
  simp only [cp_kk, cp_vc, cp_vs, cp_jm, cp_ent_en, cp_en_int, cp_en_ref, cp_en_ret, cp_en_long, cp_en_nil, cp_s1_at, cp_s2_at, cp_nl_int, cp_nl_ref, cp_nl_long, cp_nl_none, cp_pop_0, cp_pop_s, reduceIte, if_true, if_false, Bool.false_eq_true, Bool.true_eq_false, false_implies, implies_true, forall_const, true_implies, true_and, and_true, and_self, true_or, or_true, false_or, or_false, Value.category, List.length_cons, List.length_nil, Option.toList_some, Option.toList_none, List.cons_append, List.nil_append, List.append_nil, Prod.mk.injEq, Nat.add_zero, Nat.zero_add, Nat.reduceAdd, Nat.reduceSub, Nat.reduceEqDiff, Nat.reduceLeDiff, Nat.reduceLT, Nat.le_refl, beq_self_eq_true, Nat.reduceBEq, ne_eq, not_true_eq_false, not_false_eq_true, Int32.reduceAdd, Int32.reduceSub, Int32.reduceMul, Int32.reduceLE, Int32.reduceLT, Int32.reduceToNatClampNeg, b01_0, b01_1, ne_2_0, ne_3_0, ne_4_0, ne_5_0, ne_6_0, ne_m1_0, ne_m2_0, b01_01, b01_n, lt_m2, lt_m1, le_m2, le_m1, Classical.not_not, Bool.or_false, Bool.false_or, Bool.true_or, Bool.or_true, j_Read_readText_0, b_Read_readText_0, j_Read_readText_68, b_Read_readText_68, j_Read_readText_69, b_Read_readText_69, j_Read_readText_77, b_Read_readText_77, j_Read_readText_101, b_Read_readText_101, an_0, an_1, an_6, cl_0, cl_1, cl_6, ne_0_1, ne_0_6, ne_1_0, ne_1_6, ne_6_0, ne_6_1, pp_12_0, pp_12_1, sh_12, sh_13, vi_0, vi_1, vi_6]
  have hT2 : cTx T n (cp_u (cp_u (tcl I u 36) 12 2 0) 12 3 0) := by
    refine ⟨hT.1, fun k hk => ?_⟩
    rw [cp_u_at, if_neg (by omega), cp_u_at, if_neg (by omega)]
    unfold tcl
    rw [if_neg (by rcases hu with rfl | rfl <;> omega), if_neg (by rcases hu with rfl | rfl <;> omega)]
    exact hT.2 k hk
  refine c_Tok_start (d := d + 5) hT2 ?_
  intro M1 f1 f2
  simp only [cp_kk, cp_vc, cp_vs, cp_jm, cp_ent_en, cp_en_int, cp_en_ref, cp_en_ret, cp_en_long, cp_en_nil, cp_s1_at, cp_s2_at, cp_nl_int, cp_nl_ref, cp_nl_long, cp_nl_none, cp_pop_0, cp_pop_s, reduceIte, if_true, if_false, Bool.false_eq_true, Bool.true_eq_false, false_implies, implies_true, forall_const, true_implies, true_and, and_true, and_self, true_or, or_true, false_or, or_false, Value.category, List.length_cons, List.length_nil, Option.toList_some, Option.toList_none, List.cons_append, List.nil_append, List.append_nil, Prod.mk.injEq, Nat.add_zero, Nat.zero_add, Nat.reduceAdd, Nat.reduceSub, Nat.reduceEqDiff, Nat.reduceLeDiff, Nat.reduceLT, Nat.le_refl, beq_self_eq_true, Nat.reduceBEq, ne_eq, not_true_eq_false, not_false_eq_true, Int32.reduceAdd, Int32.reduceSub, Int32.reduceMul, Int32.reduceLE, Int32.reduceLT, Int32.reduceToNatClampNeg, b01_0, b01_1, ne_2_0, ne_3_0, ne_4_0, ne_5_0, ne_6_0, ne_m1_0, ne_m2_0, b01_01, b01_n, lt_m2, lt_m1, le_m2, le_m1, Classical.not_not, Bool.or_false, Bool.false_or, Bool.true_or, Bool.or_true, j_Read_readText_0, b_Read_readText_0, j_Read_readText_68, b_Read_readText_68, j_Read_readText_69, b_Read_readText_69, j_Read_readText_77, b_Read_readText_77, j_Read_readText_101, b_Read_readText_101, an_0, an_1, an_6, cl_0, cl_1, cl_6, ne_0_1, ne_0_6, ne_1_0, ne_1_6, ne_6_0, ne_6_1, pp_12_0, pp_12_1, sh_12, sh_13, vi_0, vi_1, vi_6]
  have fr : ∀ a j, ¬ a = 12 → ¬ a = 13 → M1 a j = tcl I u 36 a j := by
    intro a j h1 h2
    rw [f1 a j (by omega), cp_u_at, if_neg (by omega), cp_u_at, if_neg (by omega)]
  have w0 : wf0 ((0 : Nat), (fun _ => (0 : Int32)), ([] : List (List Nat))) := by
    refine ⟨by simp, rfl, Or.inl rfl, fun _ => ⟨rfl, rfl, rfl⟩, ⟨0, by omega, rfl⟩, ⟨0, by omega, rfl⟩, fun a _ => ⟨0, by omega, rfl⟩⟩
  have hO0 : cO T n I u 0 M1 J ((0 : Nat), (fun _ => (0 : Int32)), ([] : List (List Nat))) := by
    have z0 : (0 : Int32).toNatClampNeg = 0 := by decide +kernel
    have tz : ∀ j, j < 8 → M1 u j = 0 := by
      intro j hj
      rw [fr u j (by omega) (by omega)]
      unfold tcl
      rw [if_pos ⟨rfl, hj⟩]
    refine ⟨fun a j h1 h2 h3 => ?_, ?_, ?_, f2, ⟨⟨tz 0 (by omega), tz 1 (by omega), tz 2 (by omega), tz 3 (by omega), tz 4 (by omega), tz 6 (by omega), tz 7 (by omega)⟩, ?_, ?_, ?_, ?_, 0, by omega, ?_, ?_⟩, ⟨by simp, fun b hb => by simp at hb⟩, by simp⟩
    · by_cases e : a = 12
      · subst e
        rw [f1 12 j (by omega), cp_u_at, if_neg (by omega), cp_u_at, if_neg (by omega)]
        unfold tcl
        rw [if_neg (by omega), if_neg (by omega)]
      · rw [fr a j e h2]
        unfold tcl
        rw [if_neg (by omega), if_neg (by omega)]
    · rw [f1 12 2 (by omega)]
      simp [cp_u_at]
    · rw [f1 12 3 (by omega)]
      simp [cp_u_at]
    · intro b hb
      rw [z0] at hb
      omega
    · intro x y hx hy
      rw [fr _ _ (by omega) (by omega)]
      unfold tcl
      rw [if_neg (by omega), if_pos ⟨rfl, by omega⟩]
    · intro k hk
      rw [z0] at hk
      omega
    · intro k hk
      rw [z0] at hk
      omega
    · rw [tz 5 (by omega)]
      rfl
    · intro x y hx hy hxy
      show (0 : Nat).testBit _ = (0 : Int32).toNatClampNeg.testBit y
      rw [z0]
      simp
  refine lp_Read_text (J0 := J) hu hT hE hO 901 0 M1 J ((0 : Nat), (fun _ => (0 : Int32)), ([] : List (List Nat))) _ (by omega) (by simp) hO0 w0 ?_ (fun _ _ _ => rfl) ?_ ?_ ?_ rfl
  · intro a b _ _ _ _
    rfl
  · simp [cp_s1_at, cp_ent_en, cp_en_ref, cp_nl_ref]
  · simp [cp_s1_at, cp_nl_int]
  · simp [cp_s1_at, nI_0]
end Read9
