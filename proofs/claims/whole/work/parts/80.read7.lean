section Read7
variable {g : cp_G} {d : Nat} {sh : cp_H} {I M : cp_I} {J J0 : cp_J} {P : cp_P} {Q : cp_QT} {t u r x : Nat} {T : Nat → Nat} {n p : Nat} {s : pS}
/-- what was felt, kept -/
theorem cFr_felt {F : Nat → Int32} {v z i : Nat} (h : cFr F M r) (h46 : (F 4).toNatClampNeg ≤ 6) (h74 : (F 7).toNatClampNeg ≤ 4) (h8 : F 8 = nI i) (hi : i < 4) (hv : M (r + 8) i = nI v) : cFr (upd (upd (upd F (76 + 2 * i) (nI v)) (77 + 2 * i) (nI z)) 8 (nI (i + 1))) (cp_u (cp_u M (r + 9) i (nI z)) r 7 (nI (i + 1))) r := by
  obtain ⟨⟨a0, a1, a2, a3, a4, a6, a7⟩, bb, c, dd, f, m, m1, m2, m3⟩ := h
  have hc8 : (F 8).toNatClampNeg = i := by rw [h8]; exact ncl (by omega)
  have hF : ∀ j, ¬ (76 ≤ j) → ¬ j = 8 → upd (upd (upd F (76 + 2 * i) (nI v)) (77 + 2 * i) (nI z)) 8 (nI (i + 1)) j = F j := by
    intro j hj hj7
    rw [pk_un (by omega), pk_un (by omega), pk_un (by omega)]
  have o : ∀ q k, 1 ≤ q → ¬ (q = 9 ∧ k = i) → cp_u (cp_u M (r + 9) i (nI z)) r 7 (nI (i + 1)) (r + q) k = M (r + q) k := by
    intro q k h1 h2
    rw [cp_u_at, if_neg (by omega), cp_u_at, if_neg (by omega)]
  have oo : ∀ k, ¬ k = 7 → cp_u (cp_u M (r + 9) i (nI z)) r 7 (nI (i + 1)) r k = M r k := by
    intro k h1
    rw [cp_u_at, if_neg (by omega), cp_u_at, if_neg (by omega)]
  refine ⟨⟨?_, ?_, ?_, ?_, ?_, ?_, ?_⟩, ?_, ?_, ?_, ?_, m, m1, by rw [oo 5 (by omega)]; exact m2, ?_⟩
  · rw [oo 0 (by omega), hF 0 (by omega) (by omega)]; exact a0
  · rw [oo 1 (by omega), hF 1 (by omega) (by omega)]; exact a1
  · rw [oo 2 (by omega), hF 2 (by omega) (by omega)]; exact a2
  · rw [oo 3 (by omega), hF 3 (by omega) (by omega)]; exact a3
  · rw [oo 4 (by omega), hF 4 (by omega) (by omega)]; exact a4
  · rw [oo 6 (by omega), hF 7 (by omega) (by omega)]; exact a6
  · rw [pk_us, cp_u_at, if_pos ⟨rfl, rfl⟩]
  · intro k hk
    rw [hF 4 (by omega) (by omega)] at hk
    rw [o 2 k (by omega) (by omega), o 3 k (by omega) (by omega), hF _ (by omega) (by omega), hF _ (by omega) (by omega)]
    exact bb k hk
  · intro x y hx hy
    rw [o 4 _ (by omega) (by omega), hF _ (by omega) (by omega)]
    exact c x y hx hy
  · intro k hk
    rw [hF 7 (by omega) (by omega)] at hk
    rw [o 5 k (by omega) (by omega), o 6 k (by omega) (by omega), o 7 k (by omega) (by omega), hF _ (by omega) (by omega), hF _ (by omega) (by omega), hF _ (by omega) (by omega)]
    exact dd k hk
  · intro k hk
    rw [pk_us, ncl (show i + 1 < 1000 by omega)] at hk
    by_cases e : k = i
    · subst e
      refine ⟨?_, ?_⟩
      · rw [o 8 k (by omega) (by omega), pk_un (by omega), pk_un (by omega), pk_us]
        exact hv
      · rw [cp_u_at, if_neg (by omega), cp_u_at, if_pos ⟨rfl, rfl⟩, pk_un (by omega), pk_us]
    · rw [o 8 k (by omega) (by omega), o 9 k (by omega) (by omega)]
      have := f k (by omega)
      rw [pk_un (by omega), pk_un (by omega), pk_un (by omega), pk_un (by omega), pk_un (by omega), pk_un (by omega)]
      exact this
  · intro x y hx hy hxy
    rw [hF _ (by omega) (by omega)]
    exact m3 x y hx hy hxy
theorem lp_Read_felt {hd : Int32} {k v : Nat} (hr : tk r) (hT : cTx T n I) (hk : k < 4) :
    ∀ (m z mn : Nat) (M : cp_I) (s : pS) (L : cp_Lo), mn + m = 7 → z < 64 → cO T n I r hd M J s → s.2.2.length ≤ 6 → s.2.1 4 = nI s.2.2.length → (s.2.1 7).toNatClampNeg ≤ 4 → s.2.1 8 = nI k → M (r + 8) k = nI v → L 0 = some (.ref 12) → L 1 = some (.int (nI k)) → L 2 = some (.int (nI z)) → L 3 = some (.int (nI mn)) →
    (∀ M' a, p_who T n m z s = .ok a → cO T n I r hd M' J (p_fin k v a) → Q (some (.int 1)) SH M' J (PP t u r 1)) → (∀ M' e, p_who T n m z s = .error e → cE I r M' e → Q (some (.int 0)) SH M' J (PP t u r 1)) → RW g false (d + 8) 0 0 m_Read_readFelt 0 0 56 L [] SH M J (PP t u r 1) Q := by
  have fin : ∀ (z : Nat) (M : cp_I) (s : pS) (L : cp_Lo), cO T n I r hd M J s → s.2.2.length ≤ 6 → s.2.1 4 = nI s.2.2.length → (s.2.1 7).toNatClampNeg ≤ 4 → s.2.1 8 = nI k → M (r + 8) k = nI v → L 0 = some (.ref 12) → L 1 = some (.int (nI k)) → L 2 = some (.int (nI z)) → (∀ M', cO T n I r hd M' J (p_fin k v (z, s)) → Q (some (.int 1)) SH M' J (PP t u r 1)) → RW g false (d + 8) 0 0 m_Read_readFelt 0 0 106 L [] SH M J (PP t u r 1) Q := by
    intro z M s L h hl h4 h7 h8 hv l0 l1 l2 hQ
    obtain ⟨o1, o2, o3, o4, o5, o6, o7⟩ := id h
    have n9 := r_13 hr (k := 9) (by omega)
    have n0 := r_13 hr (k := 0) (by omega)
    have h46 : (s.2.1 4).toNatClampNeg ≤ 6 := by rw [h4, ncl (by omega)]; exact hl
    refine cp_run 40 (fun _ => false) ck_Read_readFelt ?_
    simp only [cp_vc, cp_vs, cp_jm, cp_ent_en, cp_en_int, cp_en_ref, cp_en_ret, cp_en_long, cp_en_nil, cp_s1_at, cp_s2_at, cp_nl_int, cp_nl_ref, cp_nl_long, cp_nl_none, cp_pop_0, cp_pop_s, reduceIte, if_true, if_false, Bool.false_eq_true, Bool.true_eq_false, false_implies, implies_true, forall_const, true_implies, true_and, and_true, and_self, true_or, or_true, false_or, or_false, Value.category, List.length_cons, List.length_nil, Option.toList_some, Option.toList_none, List.cons_append, List.nil_append, List.append_nil, Prod.mk.injEq, Nat.add_zero, Nat.zero_add, Nat.reduceAdd, Nat.reduceSub, Nat.reduceEqDiff, Nat.reduceLeDiff, Nat.reduceLT, Nat.le_refl, beq_self_eq_true, Nat.reduceBEq, ne_eq, not_true_eq_false, not_false_eq_true, Int32.reduceAdd, Int32.reduceSub, Int32.reduceMul, Int32.reduceLE, Int32.reduceLT, Int32.reduceToNatClampNeg, b01_0, b01_1, ne_2_0, ne_3_0, ne_4_0, ne_5_0, ne_6_0, ne_m1_0, ne_m2_0, b01_01, b01_n, lt_m2, lt_m1, le_m2, le_m1, Classical.not_not, j_Read_readFelt_0, b_Read_readFelt_0, j_Read_readFelt_19, b_Read_readFelt_19, j_Read_readFelt_39, b_Read_readFelt_39, j_Read_readFelt_56, b_Read_readFelt_56, j_Read_readFelt_91, b_Read_readFelt_91, j_Read_readFelt_106, b_Read_readFelt_106, an_0, an_1, an_4, an_5, an_6, cl_0, cl_1, cl_4, cl_44, cl_5, cl_6, ne_0_1, ne_0_4, ne_0_5, ne_0_6, ne_1_0, ne_1_4, ne_1_5, ne_1_6, ne_4_0, ne_4_1, ne_4_5, ne_4_6, ne_5_0, ne_5_1, ne_5_4, ne_5_6, ne_6_0, ne_6_1, ne_6_4, ne_6_5, pp_12_0, pp_12_1, sh_12, sh_13, vi_0, vi_1, vi_4, vi_44, vi_5, vi_6, l0, l1, l2, pp_12_1, sT0 hr, sT1 hr, sT2 hr, sT3 hr, sT4 hr, sT5 hr, sT6 hr, sT7 hr, sT8 hr, sT9 hr, pT1 hr, pT2 hr, pT3 hr, pT4 hr, pT5 hr, pT6 hr, pT7 hr, pT8 hr, pT9 hr, vin (show k < 4 by omega) (by omega), ncl (show k < 1000 by omega), nI_1]
    refine hQ _ ?_
    refine ⟨cRK_r (k := 0) hr (cRK_r (k := 9) hr o1 (by omega) _ _) (by omega) _ _, ?_, ?_, cTk_r (k := 0) hr (by omega) (cTk_r (k := 9) hr (by omega) o4), ?_, o6, o7⟩
    · rw [cp_u_at, if_neg (by omega), cp_u_at, if_neg (by omega)]
      exact o2
    · rw [cp_u_at, if_neg (by omega), cp_u_at, if_neg (by omega)]
      exact o3
    · show cFr (upd (upd (upd s.2.1 (76 + 2 * k) (nI v)) (77 + 2 * k) (nI z)) 8 (s.2.1 8 + 1)) _ r
      rw [h8, nI_1]
      exact cFr_felt o5 h46 h7 h8 hk hv
  intro m
  induction m with
  | zero =>
    intro z mn M s L hm hz h hl h4 h7 h8 hv l0 l1 l2 l3 h1 h0
    have c1 : (6 : Int32) < nI mn := nI_lt (a := 6) (by omega) (by omega)
    refine cp_run 20 (fun t => t == 56 || t == 106) ck_Read_readFelt ?_
    rw [j_Read_readFelt_56, b_Read_readFelt_56]
    simp only [cp_vc, cp_vs, cp_jm, cp_ent_en, cp_en_int, cp_en_ref, cp_en_ret, cp_en_long, cp_en_nil, cp_s1_at, cp_s2_at, cp_nl_int, cp_nl_ref, cp_nl_long, cp_nl_none, cp_pop_0, cp_pop_s, reduceIte, if_true, if_false, Bool.false_eq_true, Bool.true_eq_false, false_implies, implies_true, forall_const, true_implies, true_and, and_true, and_self, true_or, or_true, false_or, or_false, Value.category, List.length_cons, List.length_nil, Option.toList_some, Option.toList_none, List.cons_append, List.nil_append, List.append_nil, Prod.mk.injEq, Nat.add_zero, Nat.zero_add, Nat.reduceAdd, Nat.reduceSub, Nat.reduceEqDiff, Nat.reduceLeDiff, Nat.reduceLT, Nat.le_refl, beq_self_eq_true, Nat.reduceBEq, ne_eq, not_true_eq_false, not_false_eq_true, Int32.reduceAdd, Int32.reduceSub, Int32.reduceMul, Int32.reduceLE, Int32.reduceLT, Int32.reduceToNatClampNeg, b01_0, b01_1, ne_2_0, ne_3_0, ne_4_0, ne_5_0, ne_6_0, ne_m1_0, ne_m2_0, b01_01, b01_n, lt_m2, lt_m1, le_m2, le_m1, Classical.not_not, Bool.or_false, Bool.false_or, Bool.true_or, Bool.or_true, j_Read_readFelt_0, b_Read_readFelt_0, j_Read_readFelt_19, b_Read_readFelt_19, j_Read_readFelt_39, b_Read_readFelt_39, j_Read_readFelt_91, b_Read_readFelt_91, an_0, an_1, an_4, an_5, an_6, cl_0, cl_1, cl_4, cl_44, cl_5, cl_6, ne_0_1, ne_0_4, ne_0_5, ne_0_6, ne_1_0, ne_1_4, ne_1_5, ne_1_6, ne_4_0, ne_4_1, ne_4_5, ne_4_6, ne_5_0, ne_5_1, ne_5_4, ne_5_6, ne_6_0, ne_6_1, ne_6_4, ne_6_5, pp_12_0, pp_12_1, sh_12, sh_13, vi_0, vi_1, vi_4, vi_44, vi_5, vi_6, l0, l1, l2, l3, c1]
    exact fin z M s L h hl h4 h7 h8 hv l0 l1 l2 (fun M' hO => h1 M' (z, s) rfl hO)
  | succ m ih =>
    intro z mn M s L hm hz h hl h4 h7 h8 hv l0 l1 l2 l3 h1 h0
    have c1 : ¬ (6 : Int32) < nI mn := nI_nlt (b := mn) (a := 6) (by omega) (by omega)
    obtain ⟨o1, o2, o3, o4, o5, o6, o7⟩ := id h
    rw [p_who] at h1 h0
    refine cp_run 40 (fun t => t == 56 || t == 106) ck_Read_readFelt ?_
    rw [j_Read_readFelt_56, b_Read_readFelt_56]
    simp only [cp_vc, cp_vs, cp_jm, cp_ent_en, cp_en_int, cp_en_ref, cp_en_ret, cp_en_long, cp_en_nil, cp_s1_at, cp_s2_at, cp_nl_int, cp_nl_ref, cp_nl_long, cp_nl_none, cp_pop_0, cp_pop_s, reduceIte, if_true, if_false, Bool.false_eq_true, Bool.true_eq_false, false_implies, implies_true, forall_const, true_implies, true_and, and_true, and_self, true_or, or_true, false_or, or_false, Value.category, List.length_cons, List.length_nil, Option.toList_some, Option.toList_none, List.cons_append, List.nil_append, List.append_nil, Prod.mk.injEq, Nat.add_zero, Nat.zero_add, Nat.reduceAdd, Nat.reduceSub, Nat.reduceEqDiff, Nat.reduceLeDiff, Nat.reduceLT, Nat.le_refl, beq_self_eq_true, Nat.reduceBEq, ne_eq, not_true_eq_false, not_false_eq_true, Int32.reduceAdd, Int32.reduceSub, Int32.reduceMul, Int32.reduceLE, Int32.reduceLT, Int32.reduceToNatClampNeg, b01_0, b01_1, ne_2_0, ne_3_0, ne_4_0, ne_5_0, ne_6_0, ne_m1_0, ne_m2_0, b01_01, b01_n, lt_m2, lt_m1, le_m2, le_m1, Classical.not_not, Bool.or_false, Bool.false_or, Bool.true_or, Bool.or_true, j_Read_readFelt_0, b_Read_readFelt_0, j_Read_readFelt_19, b_Read_readFelt_19, j_Read_readFelt_39, b_Read_readFelt_39, j_Read_readFelt_91, b_Read_readFelt_91, an_0, an_1, an_4, an_5, an_6, cl_0, cl_1, cl_4, cl_44, cl_5, cl_6, ne_0_1, ne_0_4, ne_0_5, ne_0_6, ne_1_0, ne_1_4, ne_1_5, ne_1_6, ne_4_0, ne_4_1, ne_4_5, ne_4_6, ne_5_0, ne_5_1, ne_5_4, ne_5_6, ne_6_0, ne_6_1, ne_6_4, ne_6_5, pp_12_0, pp_12_1, sh_12, sh_13, vi_0, vi_1, vi_4, vi_44, vi_5, vi_6, l0, l1, l2, l3, c1]
    refine c_Tok_isSign (d := d + 6) (c := 44) (by omega) (cRK_T o1 hr hT) o4 o7 ?_
    simp only [cp_kk, cp_vc, cp_vs, cp_jm, cp_ent_en, cp_en_int, cp_en_ref, cp_en_ret, cp_en_long, cp_en_nil, cp_s1_at, cp_s2_at, cp_nl_int, cp_nl_ref, cp_nl_long, cp_nl_none, cp_pop_0, cp_pop_s, reduceIte, if_true, if_false, Bool.false_eq_true, Bool.true_eq_false, false_implies, implies_true, forall_const, true_implies, true_and, and_true, and_self, true_or, or_true, false_or, or_false, Value.category, List.length_cons, List.length_nil, Option.toList_some, Option.toList_none, List.cons_append, List.nil_append, List.append_nil, Prod.mk.injEq, Nat.add_zero, Nat.zero_add, Nat.reduceAdd, Nat.reduceSub, Nat.reduceEqDiff, Nat.reduceLeDiff, Nat.reduceLT, Nat.le_refl, beq_self_eq_true, Nat.reduceBEq, ne_eq, not_true_eq_false, not_false_eq_true, Int32.reduceAdd, Int32.reduceSub, Int32.reduceMul, Int32.reduceLE, Int32.reduceLT, Int32.reduceToNatClampNeg, b01_0, b01_1, ne_2_0, ne_3_0, ne_4_0, ne_5_0, ne_6_0, ne_m1_0, ne_m2_0, b01_01, b01_n, lt_m2, lt_m1, le_m2, le_m1, Classical.not_not, Bool.or_false, Bool.false_or, Bool.true_or, Bool.or_true, j_Read_readFelt_0, b_Read_readFelt_0, j_Read_readFelt_19, b_Read_readFelt_19, j_Read_readFelt_39, b_Read_readFelt_39, j_Read_readFelt_91, b_Read_readFelt_91, an_0, an_1, an_4, an_5, an_6, cl_0, cl_1, cl_4, cl_44, cl_5, cl_6, ne_0_1, ne_0_4, ne_0_5, ne_0_6, ne_1_0, ne_1_4, ne_1_5, ne_1_6, ne_4_0, ne_4_1, ne_4_5, ne_4_6, ne_5_0, ne_5_1, ne_5_4, ne_5_6, ne_6_0, ne_6_1, ne_6_4, ne_6_5, pp_12_0, pp_12_1, sh_12, sh_13, vi_0, vi_1, vi_4, vi_44, vi_5, vi_6, l0, l1, l2, l3]
    refine ⟨fun q => ?_, fun q => ?_⟩
    · rw [if_neg q] at h1 h0
      exact fin z M s L h hl h4 h7 h8 hv l0 l1 l2 (fun M' hO => h1 M' (z, s) rfl hO)
    · rw [if_pos q] at h1 h0
      refine c_Tok_step (d := d + 4) (cRK_T o1 hr hT) o4.1 o4.2.1 (te_le o7) ?_
      intro M1 f1 f2
      have hO1 : cO T n I r hd M1 J (pnx T n s) := cO_k hr h (kR_k f1) (f1 12 3 (by omega)) f2 (te_le o7)
      obtain ⟨o1', o2', o3', o4', o5', o6', o7'⟩ := id hO1
      have e4' : M1 r 4 = nI s.2.2.length := by rw [o5'.1.2.2.2.2.1]; exact h4
      have hv1 : M1 (r + 8) k = nI v := by rw [kR_r hr (kR_k f1) (by omega)]; exact hv
      simp only [cp_kk, cp_vc, cp_vs, cp_jm, cp_ent_en, cp_en_int, cp_en_ref, cp_en_ret, cp_en_long, cp_en_nil, cp_s1_at, cp_s2_at, cp_nl_int, cp_nl_ref, cp_nl_long, cp_nl_none, cp_pop_0, cp_pop_s, reduceIte, if_true, if_false, Bool.false_eq_true, Bool.true_eq_false, false_implies, implies_true, forall_const, true_implies, true_and, and_true, and_self, true_or, or_true, false_or, or_false, Value.category, List.length_cons, List.length_nil, Option.toList_some, Option.toList_none, List.cons_append, List.nil_append, List.append_nil, Prod.mk.injEq, Nat.add_zero, Nat.zero_add, Nat.reduceAdd, Nat.reduceSub, Nat.reduceEqDiff, Nat.reduceLeDiff, Nat.reduceLT, Nat.le_refl, beq_self_eq_true, Nat.reduceBEq, ne_eq, not_true_eq_false, not_false_eq_true, Int32.reduceAdd, Int32.reduceSub, Int32.reduceMul, Int32.reduceLE, Int32.reduceLT, Int32.reduceToNatClampNeg, b01_0, b01_1, ne_2_0, ne_3_0, ne_4_0, ne_5_0, ne_6_0, ne_m1_0, ne_m2_0, b01_01, b01_n, lt_m2, lt_m1, le_m2, le_m1, Classical.not_not, Bool.or_false, Bool.false_or, Bool.true_or, Bool.or_true, j_Read_readFelt_0, b_Read_readFelt_0, j_Read_readFelt_19, b_Read_readFelt_19, j_Read_readFelt_39, b_Read_readFelt_39, j_Read_readFelt_91, b_Read_readFelt_91, an_0, an_1, an_4, an_5, an_6, cl_0, cl_1, cl_4, cl_44, cl_5, cl_6, ne_0_1, ne_0_4, ne_0_5, ne_0_6, ne_1_0, ne_1_4, ne_1_5, ne_1_6, ne_4_0, ne_4_1, ne_4_5, ne_4_6, ne_5_0, ne_5_1, ne_5_4, ne_5_6, ne_6_0, ne_6_1, ne_6_4, ne_6_5, pp_12_0, pp_12_1, sh_12, sh_13, vi_0, vi_1, vi_4, vi_44, vi_5, vi_6, l0, l1, l2, l3]
      refine c_Read_takeBather hr (cRK_T o1' hr hT) o4' o7' o6' e4' hz ?_ ?_ ?_ ?_
      · intro b hnm hf hs M2 g1 g2 g3 g4
        have hb := nfind_lt hf
        have hb' : b < s.2.2.length := by rw [Nat.zero_add] at hb; exact hb
        have hO2 : cO T n I r hd M2 J (pnx T n (pnx T n s)) := cO_k hr hO1 g1 g2 g4 (te_le o7')
        have hh : p_here T n (pnx T n s) = .ok (b, pnx T n s) := here_ok hnm hf
        have hpb := pow_lt64 (show b < 6 by omega)
        rw [hh] at h1 h0
        simp only [eb_ok, hs, Bool.false_eq_true, if_false] at h1 h0
        simp only [cp_kk, cp_vc, cp_vs, cp_jm, cp_ent_en, cp_en_int, cp_en_ref, cp_en_ret, cp_en_long, cp_en_nil, cp_s1_at, cp_s2_at, cp_nl_int, cp_nl_ref, cp_nl_long, cp_nl_none, cp_pop_0, cp_pop_s, reduceIte, if_true, if_false, Bool.false_eq_true, Bool.true_eq_false, false_implies, implies_true, forall_const, true_implies, true_and, and_true, and_self, true_or, or_true, false_or, or_false, Value.category, List.length_cons, List.length_nil, Option.toList_some, Option.toList_none, List.cons_append, List.nil_append, List.append_nil, Prod.mk.injEq, Nat.add_zero, Nat.zero_add, Nat.reduceAdd, Nat.reduceSub, Nat.reduceEqDiff, Nat.reduceLeDiff, Nat.reduceLT, Nat.le_refl, beq_self_eq_true, Nat.reduceBEq, ne_eq, not_true_eq_false, not_false_eq_true, Int32.reduceAdd, Int32.reduceSub, Int32.reduceMul, Int32.reduceLE, Int32.reduceLT, Int32.reduceToNatClampNeg, b01_0, b01_1, ne_2_0, ne_3_0, ne_4_0, ne_5_0, ne_6_0, ne_m1_0, ne_m2_0, b01_01, b01_n, lt_m2, lt_m1, le_m2, le_m1, Classical.not_not, Bool.or_false, Bool.false_or, Bool.true_or, Bool.or_true, j_Read_readFelt_0, b_Read_readFelt_0, j_Read_readFelt_19, b_Read_readFelt_19, j_Read_readFelt_39, b_Read_readFelt_39, j_Read_readFelt_91, b_Read_readFelt_91, an_0, an_1, an_4, an_5, an_6, cl_0, cl_1, cl_4, cl_44, cl_5, cl_6, ne_0_1, ne_0_4, ne_0_5, ne_0_6, ne_1_0, ne_1_4, ne_1_5, ne_1_6, ne_4_0, ne_4_1, ne_4_5, ne_4_6, ne_5_0, ne_5_1, ne_5_4, ne_5_6, ne_6_0, ne_6_1, ne_6_4, ne_6_5, pp_12_0, pp_12_1, sh_12, sh_13, vi_0, vi_1, vi_4, vi_44, vi_5, vi_6, l0, l1, l2, l3, g3, sh1 (show b < 8 by omega), or_nI hz hpb, nI_1]
        refine ih (z ||| 2 ^ b) (mn + 1) M2 (pnx T n (pnx T n s)) _ (by omega) (or_lt64 hz hpb) hO2 hl h4 h7 h8 (by rw [kR_r hr g1 (by omega)]; exact hv1) ?_ ?_ ?_ ?_ h1 h0 <;> simp [cp_s1_at, cp_nl_int, cp_nl_ref, l0, l1]
      · intro b hnm hf hs M2 g1 g2 g3
        have hh : p_here T n (pnx T n s) = .ok (b, pnx T n s) := here_ok hnm hf
        rw [hh] at h0
        simp only [eb_ok, hs, if_true] at h0
        simp only [cp_kk, cp_vc, cp_vs, cp_jm, cp_ent_en, cp_en_int, cp_en_ref, cp_en_ret, cp_en_long, cp_en_nil, cp_s1_at, cp_s2_at, cp_nl_int, cp_nl_ref, cp_nl_long, cp_nl_none, cp_pop_0, cp_pop_s, reduceIte, if_true, if_false, Bool.false_eq_true, Bool.true_eq_false, false_implies, implies_true, forall_const, true_implies, true_and, and_true, and_self, true_or, or_true, false_or, or_false, Value.category, List.length_cons, List.length_nil, Option.toList_some, Option.toList_none, List.cons_append, List.nil_append, List.append_nil, Prod.mk.injEq, Nat.add_zero, Nat.zero_add, Nat.reduceAdd, Nat.reduceSub, Nat.reduceEqDiff, Nat.reduceLeDiff, Nat.reduceLT, Nat.le_refl, beq_self_eq_true, Nat.reduceBEq, ne_eq, not_true_eq_false, not_false_eq_true, Int32.reduceAdd, Int32.reduceSub, Int32.reduceMul, Int32.reduceLE, Int32.reduceLT, Int32.reduceToNatClampNeg, b01_0, b01_1, ne_2_0, ne_3_0, ne_4_0, ne_5_0, ne_6_0, ne_m1_0, ne_m2_0, b01_01, b01_n, lt_m2, lt_m1, le_m2, le_m1, Classical.not_not, Bool.or_false, Bool.false_or, Bool.true_or, Bool.or_true, j_Read_readFelt_0, b_Read_readFelt_0, j_Read_readFelt_19, b_Read_readFelt_19, j_Read_readFelt_39, b_Read_readFelt_39, j_Read_readFelt_91, b_Read_readFelt_91, an_0, an_1, an_4, an_5, an_6, cl_0, cl_1, cl_4, cl_44, cl_5, cl_6, ne_0_1, ne_0_4, ne_0_5, ne_0_6, ne_1_0, ne_1_4, ne_1_5, ne_1_6, ne_4_0, ne_4_1, ne_4_5, ne_4_6, ne_5_0, ne_5_1, ne_5_4, ne_5_6, ne_6_0, ne_6_1, ne_6_4, ne_6_5, pp_12_0, pp_12_1, sh_12, sh_13, vi_0, vi_1, vi_4, vi_44, vi_5, vi_6]
        exact h0 M2 _ rfl (cE_k o1' g1 g2 g3)
      · intro hnm hf M2 g1 g2 g3
        have hh : p_here T n (pnx T n s) = .error (2, ta T n (te T n s.1)) := here_2 hnm hf
        rw [hh] at h0
        simp only [eb_err] at h0
        simp only [cp_kk, cp_vc, cp_vs, cp_jm, cp_ent_en, cp_en_int, cp_en_ref, cp_en_ret, cp_en_long, cp_en_nil, cp_s1_at, cp_s2_at, cp_nl_int, cp_nl_ref, cp_nl_long, cp_nl_none, cp_pop_0, cp_pop_s, reduceIte, if_true, if_false, Bool.false_eq_true, Bool.true_eq_false, false_implies, implies_true, forall_const, true_implies, true_and, and_true, and_self, true_or, or_true, false_or, or_false, Value.category, List.length_cons, List.length_nil, Option.toList_some, Option.toList_none, List.cons_append, List.nil_append, List.append_nil, Prod.mk.injEq, Nat.add_zero, Nat.zero_add, Nat.reduceAdd, Nat.reduceSub, Nat.reduceEqDiff, Nat.reduceLeDiff, Nat.reduceLT, Nat.le_refl, beq_self_eq_true, Nat.reduceBEq, ne_eq, not_true_eq_false, not_false_eq_true, Int32.reduceAdd, Int32.reduceSub, Int32.reduceMul, Int32.reduceLE, Int32.reduceLT, Int32.reduceToNatClampNeg, b01_0, b01_1, ne_2_0, ne_3_0, ne_4_0, ne_5_0, ne_6_0, ne_m1_0, ne_m2_0, b01_01, b01_n, lt_m2, lt_m1, le_m2, le_m1, Classical.not_not, Bool.or_false, Bool.false_or, Bool.true_or, Bool.or_true, j_Read_readFelt_0, b_Read_readFelt_0, j_Read_readFelt_19, b_Read_readFelt_19, j_Read_readFelt_39, b_Read_readFelt_39, j_Read_readFelt_91, b_Read_readFelt_91, an_0, an_1, an_4, an_5, an_6, cl_0, cl_1, cl_4, cl_44, cl_5, cl_6, ne_0_1, ne_0_4, ne_0_5, ne_0_6, ne_1_0, ne_1_4, ne_1_5, ne_1_6, ne_4_0, ne_4_1, ne_4_5, ne_4_6, ne_5_0, ne_5_1, ne_5_4, ne_5_6, ne_6_0, ne_6_1, ne_6_4, ne_6_5, pp_12_0, pp_12_1, sh_12, sh_13, vi_0, vi_1, vi_4, vi_44, vi_5, vi_6]
        exact h0 M2 _ rfl (cE_k o1' g1 g2 g3)
      · intro hnm M2 g1 g2 g3
        have hh : p_here T n (pnx T n s) = .error (1, ta T n (te T n s.1)) := here_1 hnm
        rw [hh] at h0
        simp only [eb_err] at h0
        simp only [cp_kk, cp_vc, cp_vs, cp_jm, cp_ent_en, cp_en_int, cp_en_ref, cp_en_ret, cp_en_long, cp_en_nil, cp_s1_at, cp_s2_at, cp_nl_int, cp_nl_ref, cp_nl_long, cp_nl_none, cp_pop_0, cp_pop_s, reduceIte, if_true, if_false, Bool.false_eq_true, Bool.true_eq_false, false_implies, implies_true, forall_const, true_implies, true_and, and_true, and_self, true_or, or_true, false_or, or_false, Value.category, List.length_cons, List.length_nil, Option.toList_some, Option.toList_none, List.cons_append, List.nil_append, List.append_nil, Prod.mk.injEq, Nat.add_zero, Nat.zero_add, Nat.reduceAdd, Nat.reduceSub, Nat.reduceEqDiff, Nat.reduceLeDiff, Nat.reduceLT, Nat.le_refl, beq_self_eq_true, Nat.reduceBEq, ne_eq, not_true_eq_false, not_false_eq_true, Int32.reduceAdd, Int32.reduceSub, Int32.reduceMul, Int32.reduceLE, Int32.reduceLT, Int32.reduceToNatClampNeg, b01_0, b01_1, ne_2_0, ne_3_0, ne_4_0, ne_5_0, ne_6_0, ne_m1_0, ne_m2_0, b01_01, b01_n, lt_m2, lt_m1, le_m2, le_m1, Classical.not_not, Bool.or_false, Bool.false_or, Bool.true_or, Bool.or_true, j_Read_readFelt_0, b_Read_readFelt_0, j_Read_readFelt_19, b_Read_readFelt_19, j_Read_readFelt_39, b_Read_readFelt_39, j_Read_readFelt_91, b_Read_readFelt_91, an_0, an_1, an_4, an_5, an_6, cl_0, cl_1, cl_4, cl_44, cl_5, cl_6, ne_0_1, ne_0_4, ne_0_5, ne_0_6, ne_1_0, ne_1_4, ne_1_5, ne_1_6, ne_4_0, ne_4_1, ne_4_5, ne_4_6, ne_5_0, ne_5_1, ne_5_4, ne_5_6, ne_6_0, ne_6_1, ne_6_4, ne_6_5, pp_12_0, pp_12_1, sh_12, sh_13, vi_0, vi_1, vi_4, vi_44, vi_5, vi_6]
        exact h0 M2 _ rfl (cE_k o1' g1 g2 g3)
/-- a row's place not yet counted -/
theorem cO_f {hd : Int32} {k : Nat} (hr : tk r) (h : cO T n I r hd M J s) (h8 : s.2.1 8 = nI k) (hk : k < 4) (v : Int32) : cO T n I r hd (cp_u M (r + 8) k v) J s := by
  obtain ⟨o1, o2, o3, o4, ⟨⟨a0, a1, a2, a3, a4, a6, a7⟩, b, c, dd, f, m, m1, m2, m3⟩, o6, o7⟩ := h
  have hc : (s.2.1 8).toNatClampNeg = k := by rw [h8]; exact ncl (by omega)
  have o : ∀ q i, ¬ (q = 8 ∧ i = k) → cp_u M (r + 8) k v (r + q) i = M (r + q) i := fun q i hq => by rw [cp_u_at, if_neg (by omega)]
  have oo : ∀ i, cp_u M (r + 8) k v r i = M r i := fun i => by rw [cp_u_at, if_neg (by omega)]
  refine ⟨cRK_r hr o1 (by omega) _ _, by rw [u_13 hr (by omega) (by omega)]; exact o2, by rw [u_13 hr (by omega) (by omega)]; exact o3, cTk_r hr (by omega) o4, ⟨⟨by rw [oo]; exact a0, by rw [oo]; exact a1, by rw [oo]; exact a2, by rw [oo]; exact a3, by rw [oo]; exact a4, by rw [oo]; exact a6, by rw [oo]; exact a7⟩, fun i hi => by rw [o 2 i (by omega), o 3 i (by omega)]; exact b i hi, fun x y hx hy => by rw [o 4 _ (by omega)]; exact c x y hx hy, fun i hi => by rw [o 5 i (by omega), o 6 i (by omega), o 7 i (by omega)]; exact dd i hi, fun i hi => ?_, m, m1, by rw [oo]; exact m2, m3⟩, o6, o7⟩
  rw [o 8 i (by omega), o 9 i (by omega)]
  exact f i hi
theorem c_Read_readFelt (hr : tk r) (hT : cTx T n I) (h : cO T n I r (s.2.1 9) M J s) (hw : wf0 s) (hq : ∀ M' b, cL T n I J r b M' J (if s.2.1 8 = 4 then .error (5, ta T n s.1) else p_felt T n (pnx T n s)) → Q (some (.int b)) SH M' J (PP t u r 1)) : MW g false (d + 8) 0 0 m_Read_readFelt [.ref 12] SH M J (PP t u r 1) Q := by
  obtain ⟨w1, w2, w3, w4, ⟨v7, w71, w72⟩, ⟨v8, w81, w82⟩, w6⟩ := id hw
  obtain ⟨o1, o2, o3, o4, o5, o6, o7⟩ := id h
  have hTM := cRK_T o1 hr hT
  have e7 : M r 7 = nI v8 := by rw [o5.1.2.2.2.2.2.2]; exact w82
  have c4 : (nI v8 < 4) = (v8 < 4) := ltN (b := 4) (by omega) (by omega)
  have c84 : (s.2.1 8 = 4) = (v8 = 4) := by rw [w82]; exact eqN (b := 4) (by omega) (by omega)
  have jr : ∀ a j, ¬ a = r + 1 → J a j = J a j := fun _ _ _ => rfl
  refine MW.of ok_Read_readFelt (Nat.le_of_ble_eq_true rfl) ?_
  by_cases hl : v8 < 4
  · rw [if_neg (by rw [c84]; omega)] at hq
    have hc8 : (s.2.1 8).toNatClampNeg = v8 := by rw [w82]; exact ncl (by omega)
    refine cp_run 40 (fun t => t == 56) ck_Read_readFelt ?_
    simp only [cp_vc, cp_vs, cp_jm, cp_ent_en, cp_en_int, cp_en_ref, cp_en_ret, cp_en_long, cp_en_nil, cp_s1_at, cp_s2_at, cp_nl_int, cp_nl_ref, cp_nl_long, cp_nl_none, cp_pop_0, cp_pop_s, reduceIte, if_true, if_false, Bool.false_eq_true, Bool.true_eq_false, false_implies, implies_true, forall_const, true_implies, true_and, and_true, and_self, true_or, or_true, false_or, or_false, Value.category, List.length_cons, List.length_nil, Option.toList_some, Option.toList_none, List.cons_append, List.nil_append, List.append_nil, Prod.mk.injEq, Nat.add_zero, Nat.zero_add, Nat.reduceAdd, Nat.reduceSub, Nat.reduceEqDiff, Nat.reduceLeDiff, Nat.reduceLT, Nat.le_refl, beq_self_eq_true, Nat.reduceBEq, ne_eq, not_true_eq_false, not_false_eq_true, Int32.reduceAdd, Int32.reduceSub, Int32.reduceMul, Int32.reduceLE, Int32.reduceLT, Int32.reduceToNatClampNeg, b01_0, b01_1, ne_2_0, ne_3_0, ne_4_0, ne_5_0, ne_6_0, ne_m1_0, ne_m2_0, b01_01, b01_n, lt_m2, lt_m1, le_m2, le_m1, Classical.not_not, j_Read_readFelt_0, b_Read_readFelt_0, j_Read_readFelt_19, b_Read_readFelt_19, j_Read_readFelt_39, b_Read_readFelt_39, j_Read_readFelt_91, b_Read_readFelt_91, j_Read_readFelt_106, b_Read_readFelt_106, an_0, an_1, an_4, an_5, an_6, cl_0, cl_1, cl_4, cl_44, cl_5, cl_6, ne_0_1, ne_0_4, ne_0_5, ne_0_6, ne_1_0, ne_1_4, ne_1_5, ne_1_6, ne_4_0, ne_4_1, ne_4_5, ne_4_6, ne_5_0, ne_5_1, ne_5_4, ne_5_6, ne_6_0, ne_6_1, ne_6_4, ne_6_5, pp_12_0, pp_12_1, sh_12, sh_13, vi_0, vi_1, vi_4, vi_44, vi_5, vi_6, pp_12_1, sT0 hr, sT1 hr, sT2 hr, sT3 hr, sT4 hr, sT5 hr, sT6 hr, sT7 hr, sT8 hr, sT9 hr, pT1 hr, pT2 hr, pT3 hr, pT4 hr, pT5 hr, pT6 hr, pT7 hr, pT8 hr, pT9 hr, e7, c4, hl]
    refine c_Tok_step (d := d + 4) hTM o4.1 o4.2.1 (te_le o7) ?_
    intro M1 f1 f2
    have hO1 : cO T n I r (s.2.1 9) M1 J (pnx T n s) := cO_k hr h (kR_k f1) (f1 12 3 (by omega)) f2 (te_le o7)
    simp only [cp_kk, cp_vc, cp_vs, cp_jm, cp_ent_en, cp_en_int, cp_en_ref, cp_en_ret, cp_en_long, cp_en_nil, cp_s1_at, cp_s2_at, cp_nl_int, cp_nl_ref, cp_nl_long, cp_nl_none, cp_pop_0, cp_pop_s, reduceIte, if_true, if_false, Bool.false_eq_true, Bool.true_eq_false, false_implies, implies_true, forall_const, true_implies, true_and, and_true, and_self, true_or, or_true, false_or, or_false, Value.category, List.length_cons, List.length_nil, Option.toList_some, Option.toList_none, List.cons_append, List.nil_append, List.append_nil, Prod.mk.injEq, Nat.add_zero, Nat.zero_add, Nat.reduceAdd, Nat.reduceSub, Nat.reduceEqDiff, Nat.reduceLeDiff, Nat.reduceLT, Nat.le_refl, beq_self_eq_true, Nat.reduceBEq, ne_eq, not_true_eq_false, not_false_eq_true, Int32.reduceAdd, Int32.reduceSub, Int32.reduceMul, Int32.reduceLE, Int32.reduceLT, Int32.reduceToNatClampNeg, b01_0, b01_1, ne_2_0, ne_3_0, ne_4_0, ne_5_0, ne_6_0, ne_m1_0, ne_m2_0, b01_01, b01_n, lt_m2, lt_m1, le_m2, le_m1, Classical.not_not, Bool.or_false, Bool.false_or, Bool.true_or, Bool.or_true, j_Read_readFelt_0, b_Read_readFelt_0, j_Read_readFelt_19, b_Read_readFelt_19, j_Read_readFelt_39, b_Read_readFelt_39, j_Read_readFelt_91, b_Read_readFelt_91, j_Read_readFelt_106, b_Read_readFelt_106, an_0, an_1, an_4, an_5, an_6, cl_0, cl_1, cl_4, cl_44, cl_5, cl_6, ne_0_1, ne_0_4, ne_0_5, ne_0_6, ne_1_0, ne_1_4, ne_1_5, ne_1_6, ne_4_0, ne_4_1, ne_4_5, ne_4_6, ne_5_0, ne_5_1, ne_5_4, ne_5_6, ne_6_0, ne_6_1, ne_6_4, ne_6_5, pp_12_0, pp_12_1, sh_12, sh_13, vi_0, vi_1, vi_4, vi_44, vi_5, vi_6]
    refine c_Read_tn (d := d + 3) (lo := 0) (hi := 200) (by omega) (by omega) hr hT hO1 ?_ ?_
    · intro M2 v e2 _ fv hO2
      have hO3 := cO_f (k := v8) hr hO2 w82 hl (nI v)
      simp only [cp_kk, cp_vc, cp_vs, cp_jm, cp_ent_en, cp_en_int, cp_en_ref, cp_en_ret, cp_en_long, cp_en_nil, cp_s1_at, cp_s2_at, cp_nl_int, cp_nl_ref, cp_nl_long, cp_nl_none, cp_pop_0, cp_pop_s, reduceIte, if_true, if_false, Bool.false_eq_true, Bool.true_eq_false, false_implies, implies_true, forall_const, true_implies, true_and, and_true, and_self, true_or, or_true, false_or, or_false, Value.category, List.length_cons, List.length_nil, Option.toList_some, Option.toList_none, List.cons_append, List.nil_append, List.append_nil, Prod.mk.injEq, Nat.add_zero, Nat.zero_add, Nat.reduceAdd, Nat.reduceSub, Nat.reduceEqDiff, Nat.reduceLeDiff, Nat.reduceLT, Nat.le_refl, beq_self_eq_true, Nat.reduceBEq, ne_eq, not_true_eq_false, not_false_eq_true, Int32.reduceAdd, Int32.reduceSub, Int32.reduceMul, Int32.reduceLE, Int32.reduceLT, Int32.reduceToNatClampNeg, b01_0, b01_1, ne_2_0, ne_3_0, ne_4_0, ne_5_0, ne_6_0, ne_m1_0, ne_m2_0, b01_01, b01_n, lt_m2, lt_m1, le_m2, le_m1, Classical.not_not, Bool.or_false, Bool.false_or, Bool.true_or, Bool.or_true, j_Read_readFelt_0, b_Read_readFelt_0, j_Read_readFelt_19, b_Read_readFelt_19, j_Read_readFelt_39, b_Read_readFelt_39, j_Read_readFelt_91, b_Read_readFelt_91, j_Read_readFelt_106, b_Read_readFelt_106, an_0, an_1, an_4, an_5, an_6, cl_0, cl_1, cl_4, cl_44, cl_5, cl_6, ne_0_1, ne_0_4, ne_0_5, ne_0_6, ne_1_0, ne_1_4, ne_1_5, ne_1_6, ne_4_0, ne_4_1, ne_4_5, ne_4_6, ne_5_0, ne_5_1, ne_5_4, ne_5_6, ne_6_0, ne_6_1, ne_6_4, ne_6_5, pp_12_0, pp_12_1, sh_12, sh_13, vi_0, vi_1, vi_4, vi_44, vi_5, vi_6, cp_s1_at, cp_ent_en, cp_en_ref, cp_nl_ref, cp_nl_int, pp_12_1, sT0 hr, sT1 hr, sT2 hr, sT3 hr, sT4 hr, sT5 hr, sT6 hr, sT7 hr, sT8 hr, sT9 hr, pT1 hr, pT2 hr, pT3 hr, pT4 hr, pT5 hr, pT6 hr, pT7 hr, pT8 hr, pT9 hr, vin (show v8 < 4 by omega) (by omega), ncl (show v8 < 1000 by omega), fv]
      have sp : p_felt T n (pnx T n s) = eb (p_who T n 7 0 (pnx T n (pnx T n s))) (fun z => .ok (p_fin v8 v z)) := by
        unfold p_felt
        rw [e2]
        have : ((pnx T n s).2.1 8).toNatClampNeg = v8 := hc8
        simp only [eb_ok, this, p_fin]
      refine lp_Read_felt (k := v8) (v := v) hr hT hl 7 0 0 _ _ _ (by omega) (by omega) hO3 w1 w2 ?_ w82 (by simp [cp_u_at]) ?_ ?_ ?_ ?_ ?_ ?_
      · show (s.2.1 7).toNatClampNeg ≤ 4
        rw [w72, ncl (by omega)]
        exact w71
      · simp [cp_s1_at, cp_ent_en, cp_en_ref, cp_nl_ref]
      · simp [cp_s1_at, cp_nl_int]
      · simp [cp_s1_at, cp_nl_int, nI_0]
      · simp [cp_s1_at, nI_0]
      · intro M' a ha hO
        refine hq M' 1 ?_
        rw [sp, ha]
        refine ⟨rfl, ?_, jr⟩
        have hw' := p_who_F (T := T) (n := n) _ _ _ _ ha
        have h9 : (p_fin v8 v a).2.1 9 = s.2.1 9 := by
          show upd (upd (upd a.2.2.1 (76 + 2 * v8) (nI v)) (77 + 2 * v8) (nI a.1)) 8 (a.2.2.1 8 + 1) 9 = _
          rw [pk_un (by omega), pk_un (by omega), pk_un (by omega), show a.2.2.1 = s.2.1 by rw [hw'.1]; rfl]
        rw [h9]
        exact hO
      · intro M' e he hE
        refine hq M' 0 ?_
        rw [sp, he]
        exact ⟨rfl, hE, jr⟩
    · intro M2 e e2 hE
      simp only [cp_kk, cp_vc, cp_vs, cp_jm, cp_ent_en, cp_en_int, cp_en_ref, cp_en_ret, cp_en_long, cp_en_nil, cp_s1_at, cp_s2_at, cp_nl_int, cp_nl_ref, cp_nl_long, cp_nl_none, cp_pop_0, cp_pop_s, reduceIte, if_true, if_false, Bool.false_eq_true, Bool.true_eq_false, false_implies, implies_true, forall_const, true_implies, true_and, and_true, and_self, true_or, or_true, false_or, or_false, Value.category, List.length_cons, List.length_nil, Option.toList_some, Option.toList_none, List.cons_append, List.nil_append, List.append_nil, Prod.mk.injEq, Nat.add_zero, Nat.zero_add, Nat.reduceAdd, Nat.reduceSub, Nat.reduceEqDiff, Nat.reduceLeDiff, Nat.reduceLT, Nat.le_refl, beq_self_eq_true, Nat.reduceBEq, ne_eq, not_true_eq_false, not_false_eq_true, Int32.reduceAdd, Int32.reduceSub, Int32.reduceMul, Int32.reduceLE, Int32.reduceLT, Int32.reduceToNatClampNeg, b01_0, b01_1, ne_2_0, ne_3_0, ne_4_0, ne_5_0, ne_6_0, ne_m1_0, ne_m2_0, b01_01, b01_n, lt_m2, lt_m1, le_m2, le_m1, Classical.not_not, Bool.or_false, Bool.false_or, Bool.true_or, Bool.or_true, j_Read_readFelt_0, b_Read_readFelt_0, j_Read_readFelt_19, b_Read_readFelt_19, j_Read_readFelt_39, b_Read_readFelt_39, j_Read_readFelt_91, b_Read_readFelt_91, j_Read_readFelt_106, b_Read_readFelt_106, an_0, an_1, an_4, an_5, an_6, cl_0, cl_1, cl_4, cl_44, cl_5, cl_6, ne_0_1, ne_0_4, ne_0_5, ne_0_6, ne_1_0, ne_1_4, ne_1_5, ne_1_6, ne_4_0, ne_4_1, ne_4_5, ne_4_6, ne_5_0, ne_5_1, ne_5_4, ne_5_6, ne_6_0, ne_6_1, ne_6_4, ne_6_5, pp_12_0, pp_12_1, sh_12, sh_13, vi_0, vi_1, vi_4, vi_44, vi_5, vi_6]
      refine hq M2 0 ?_
      have : p_felt T n (pnx T n s) = .error e := by
        unfold p_felt
        rw [e2]
        rfl
      rw [this]
      exact ⟨rfl, hE, jr⟩
  · rw [if_pos (by rw [c84]; omega)] at hq
    refine cp_run 40 (fun _ => false) ck_Read_readFelt ?_
    simp only [cp_vc, cp_vs, cp_jm, cp_ent_en, cp_en_int, cp_en_ref, cp_en_ret, cp_en_long, cp_en_nil, cp_s1_at, cp_s2_at, cp_nl_int, cp_nl_ref, cp_nl_long, cp_nl_none, cp_pop_0, cp_pop_s, reduceIte, if_true, if_false, Bool.false_eq_true, Bool.true_eq_false, false_implies, implies_true, forall_const, true_implies, true_and, and_true, and_self, true_or, or_true, false_or, or_false, Value.category, List.length_cons, List.length_nil, Option.toList_some, Option.toList_none, List.cons_append, List.nil_append, List.append_nil, Prod.mk.injEq, Nat.add_zero, Nat.zero_add, Nat.reduceAdd, Nat.reduceSub, Nat.reduceEqDiff, Nat.reduceLeDiff, Nat.reduceLT, Nat.le_refl, beq_self_eq_true, Nat.reduceBEq, ne_eq, not_true_eq_false, not_false_eq_true, Int32.reduceAdd, Int32.reduceSub, Int32.reduceMul, Int32.reduceLE, Int32.reduceLT, Int32.reduceToNatClampNeg, b01_0, b01_1, ne_2_0, ne_3_0, ne_4_0, ne_5_0, ne_6_0, ne_m1_0, ne_m2_0, b01_01, b01_n, lt_m2, lt_m1, le_m2, le_m1, Classical.not_not, j_Read_readFelt_0, b_Read_readFelt_0, j_Read_readFelt_19, b_Read_readFelt_19, j_Read_readFelt_39, b_Read_readFelt_39, j_Read_readFelt_56, b_Read_readFelt_56, j_Read_readFelt_91, b_Read_readFelt_91, j_Read_readFelt_106, b_Read_readFelt_106, an_0, an_1, an_4, an_5, an_6, cl_0, cl_1, cl_4, cl_44, cl_5, cl_6, ne_0_1, ne_0_4, ne_0_5, ne_0_6, ne_1_0, ne_1_4, ne_1_5, ne_1_6, ne_4_0, ne_4_1, ne_4_5, ne_4_6, ne_5_0, ne_5_1, ne_5_4, ne_5_6, ne_6_0, ne_6_1, ne_6_4, ne_6_5, pp_12_0, pp_12_1, sh_12, sh_13, vi_0, vi_1, vi_4, vi_44, vi_5, vi_6, pp_12_1, sT0 hr, sT1 hr, sT2 hr, sT3 hr, sT4 hr, sT5 hr, sT6 hr, sT7 hr, sT8 hr, sT9 hr, pT1 hr, pT2 hr, pT3 hr, pT4 hr, pT5 hr, pT6 hr, pT7 hr, pT8 hr, pT9 hr, e7, c4, hl]
    refine c_Read_meet (d := d + 6) o4.2.2.1 ?_
    intro M' f1 f2 f3
    simp only [cp_kk, cp_vc, cp_vs, cp_jm, cp_ent_en, cp_en_int, cp_en_ref, cp_en_ret, cp_en_long, cp_en_nil, cp_s1_at, cp_s2_at, cp_nl_int, cp_nl_ref, cp_nl_long, cp_nl_none, cp_pop_0, cp_pop_s, reduceIte, if_true, if_false, Bool.false_eq_true, Bool.true_eq_false, false_implies, implies_true, forall_const, true_implies, true_and, and_true, and_self, true_or, or_true, false_or, or_false, Value.category, List.length_cons, List.length_nil, Option.toList_some, Option.toList_none, List.cons_append, List.nil_append, List.append_nil, Prod.mk.injEq, Nat.add_zero, Nat.zero_add, Nat.reduceAdd, Nat.reduceSub, Nat.reduceEqDiff, Nat.reduceLeDiff, Nat.reduceLT, Nat.le_refl, beq_self_eq_true, Nat.reduceBEq, ne_eq, not_true_eq_false, not_false_eq_true, Int32.reduceAdd, Int32.reduceSub, Int32.reduceMul, Int32.reduceLE, Int32.reduceLT, Int32.reduceToNatClampNeg, b01_0, b01_1, ne_2_0, ne_3_0, ne_4_0, ne_5_0, ne_6_0, ne_m1_0, ne_m2_0, b01_01, b01_n, lt_m2, lt_m1, le_m2, le_m1, Classical.not_not, Bool.or_false, Bool.false_or, Bool.true_or, Bool.or_true, j_Read_readFelt_0, b_Read_readFelt_0, j_Read_readFelt_19, b_Read_readFelt_19, j_Read_readFelt_39, b_Read_readFelt_39, j_Read_readFelt_56, b_Read_readFelt_56, j_Read_readFelt_91, b_Read_readFelt_91, j_Read_readFelt_106, b_Read_readFelt_106, an_0, an_1, an_4, an_5, an_6, cl_0, cl_1, cl_4, cl_44, cl_5, cl_6, ne_0_1, ne_0_4, ne_0_5, ne_0_6, ne_1_0, ne_1_4, ne_1_5, ne_1_6, ne_4_0, ne_4_1, ne_4_5, ne_4_6, ne_5_0, ne_5_1, ne_5_4, ne_5_6, ne_6_0, ne_6_1, ne_6_4, ne_6_5, pp_12_0, pp_12_1, sh_12, sh_13, vi_0, vi_1, vi_4, vi_44, vi_5, vi_6]
    exact hq M' 0 ⟨rfl, cE_k o1 f1 f2 f3, jr⟩
end Read7
