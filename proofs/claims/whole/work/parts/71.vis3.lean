section Vis3
variable {g : cp_G} {d : Nat} {sh : cp_H} {I : cp_I} {J : cp_J} {P : cp_P} {Q : cp_QT} {t u r x n c : Nat}
/-! mornings: the class's -/
theorem cT_43 (hc : cT I t n) (v : Int32) : cT (cp_u I 43 0 v) t n := by
  have ht := hc.1
  refine cT_o hc (fun k j hk => ?_)
  have : t + k ≠ 43 := by rcases ht with rfl | rfl <;> omega
  rw [cp_u_at, if_neg (fun z => this z.1)]
theorem cdr_lt {v : Nat} : ∀ (m k : Nat) (q : Nat × Nat), k + m ≤ 6 → q.1 < 65537 → q.2 < 64 → (fo (sp_dr v) m k q).1 < 65537 ∧ (fo (sp_dr v) m k q).2 < 64
  | 0, _, _, _, h1, h2 => ⟨h1, h2⟩
  | m + 1, k, q, hk, h1, h2 => by
    rw [fo]
    refine cdr_lt m (k + 1) _ (by omega) (Nat.mod_lt _ (by omega)) ?_
    unfold sp_dr
    simp only
    split
    · exact or_lt64 h2 (pow_lt64 (by omega))
    · exact h2
theorem lp_Vis_draw {v : Nat} (hc : tk c) (hn6 : n ≤ 6) (hn : I c 4 = nI n) (hv : v ≤ 100) (hV : I c 3 = nI v) : ∀ (m b : Nat) (q : Nat × Nat) (L : cp_Lo), b + m = n → q.1 < 65537 → q.2 < 64 → L 0 = some (.ref 43) → L 1 = some (.ref c) → L 2 = some (.int (nI q.2)) → L 3 = some (.int (nI b)) →
    Q (some (.int (nI (fo (sp_dr v) m b q).2))) SH (cp_u I 43 0 (nI (fo (sp_dr v) m b q).1)) J (PP t u r x) → RW g false (d + 1) 0 0 m_Vis_drawCompany 0 0 4 L [] SH (cp_u I 43 0 (nI q.1)) J (PP t u r x) Q := by
  have nc : ¬ c = 43 := by rcases hc with rfl | rfl <;> omega
  intro m
  induction m with
  | zero =>
    intro b q L hb h1 h2 l0 l1 l2 l3 hq
    have c1 : nI n ≤ nI b := nI_le (by omega) (by omega)
    refine cp_run 30 (fun t => t == 4) ck_Vis_drawCompany ?_
    rw [j_Vis_drawCompany_4, b_Vis_drawCompany_4]
    simp only [cp_vc, cp_vs, cp_jm, cp_ent_en, cp_en_int, cp_en_ref, cp_en_ret, cp_en_long, cp_en_nil, cp_s1_at, cp_s2_at, cp_nl_int, cp_nl_ref, cp_nl_long, cp_nl_none, cp_pop_0, cp_pop_s, reduceIte, if_true, if_false, Bool.false_eq_true, Bool.true_eq_false, false_implies, implies_true, forall_const, true_implies, true_and, and_true, and_self, true_or, or_true, false_or, or_false, Value.category, List.length_cons, List.length_nil, Option.toList_some, Option.toList_none, List.cons_append, List.nil_append, List.append_nil, Prod.mk.injEq, Nat.add_zero, Nat.zero_add, Nat.reduceAdd, Nat.reduceSub, Nat.reduceEqDiff, Nat.reduceLeDiff, Nat.reduceLT, Nat.le_refl, beq_self_eq_true, Nat.reduceBEq, ne_eq, not_true_eq_false, not_false_eq_true, Int32.reduceAdd, Int32.reduceSub, Int32.reduceMul, Int32.reduceLE, Int32.reduceLT, Int32.reduceToNatClampNeg, b01_0, b01_1, ne_2_0, ne_3_0, ne_4_0, ne_5_0, ne_6_0, ne_m1_0, ne_m2_0, b01_01, b01_n, lt_m2, lt_m1, le_m2, le_m1, Classical.not_not, j_Vis_drawCompany_0, b_Vis_drawCompany_0, j_Vis_drawCompany_49, b_Vis_drawCompany_49, j_Vis_drawCompany_55, b_Vis_drawCompany_55, an_0, an_1, cl_0, cl_1, cl_100, cl_74, cl_75, ne_0_1, ne_1_0, sh_43, vi_0, vi_1, vi_100, vi_74, vi_75, l0, l1, l2, l3, sT0 hc, sT1 hc, sT2 hc, sT3 hc, sT4 hc, sT5 hc, sT6 hc, sT7 hc, sT8 hc, sT9 hc, pT1 hc, pT2 hc, pT3 hc, pT4 hc, pT5 hc, pT6 hc, pT7 hc, pT8 hc, pT9 hc, cp_u_at, nc, false_and, hn, c1]
    exact hq
  | succ m ih =>
    intro b q L hb h1 h2 l0 l1 l2 l3 hq
    have c1 : ¬ nI n ≤ nI b := nI_ge (by omega) (by omega)
    have e1 : (75 : Int32) * nI q.1 + 74 = nI (75 * q.1 + 74) := by
      rw [show (75 : Int32) = nI 75 from rfl, pk_mul, show (74 : Int32) = nI 74 from rfl, nI_add]
    have e2 : nI (75 * q.1 + 74) - nI (75 * q.1 + 74) / 65537 * 65537 = nI ((75 * q.1 + 74) % 65537) := pk_rem (d := 65537) (by omega) (by omega) (by omega)
    have hs : (75 * q.1 + 74) % 65537 < 65537 := Nat.mod_lt _ (by omega)
    have e3 : nI ((75 * q.1 + 74) % 65537) - nI ((75 * q.1 + 74) % 65537) / 100 * 100 = nI ((75 * q.1 + 74) % 65537 % 100) := pk_rem (d := 100) (by omega) (by omega) (by omega)
    have hs2 : (75 * q.1 + 74) % 65537 % 100 < 100 := Nat.mod_lt _ (by omega)
    have z1 : ¬ (65537 : Int32) = 0 := by decide +kernel
    have z2 : ¬ (100 : Int32) = 0 := by decide +kernel
    rw [fo] at hq
    have hpb := pow_lt64 (show b < 6 by omega)
    refine cp_run 60 (fun t => t == 4) ck_Vis_drawCompany ?_
    rw [j_Vis_drawCompany_4, b_Vis_drawCompany_4]
    simp only [cp_vc, cp_vs, cp_jm, cp_ent_en, cp_en_int, cp_en_ref, cp_en_ret, cp_en_long, cp_en_nil, cp_s1_at, cp_s2_at, cp_nl_int, cp_nl_ref, cp_nl_long, cp_nl_none, cp_pop_0, cp_pop_s, reduceIte, if_true, if_false, Bool.false_eq_true, Bool.true_eq_false, false_implies, implies_true, forall_const, true_implies, true_and, and_true, and_self, true_or, or_true, false_or, or_false, Value.category, List.length_cons, List.length_nil, Option.toList_some, Option.toList_none, List.cons_append, List.nil_append, List.append_nil, Prod.mk.injEq, Nat.add_zero, Nat.zero_add, Nat.reduceAdd, Nat.reduceSub, Nat.reduceEqDiff, Nat.reduceLeDiff, Nat.reduceLT, Nat.le_refl, beq_self_eq_true, Nat.reduceBEq, ne_eq, not_true_eq_false, not_false_eq_true, Int32.reduceAdd, Int32.reduceSub, Int32.reduceMul, Int32.reduceLE, Int32.reduceLT, Int32.reduceToNatClampNeg, b01_0, b01_1, ne_2_0, ne_3_0, ne_4_0, ne_5_0, ne_6_0, ne_m1_0, ne_m2_0, b01_01, b01_n, lt_m2, lt_m1, le_m2, le_m1, Classical.not_not, j_Vis_drawCompany_0, b_Vis_drawCompany_0, j_Vis_drawCompany_49, b_Vis_drawCompany_49, j_Vis_drawCompany_55, b_Vis_drawCompany_55, an_0, an_1, cl_0, cl_1, cl_100, cl_74, cl_75, ne_0_1, ne_1_0, sh_43, vi_0, vi_1, vi_100, vi_74, vi_75, l0, l1, l2, l3, sT0 hc, sT1 hc, sT2 hc, sT3 hc, sT4 hc, sT5 hc, sT6 hc, sT7 hc, sT8 hc, sT9 hc, pT1 hc, pT2 hc, pT3 hc, pT4 hc, pT5 hc, pT6 hc, pT7 hc, pT8 hc, pT9 hc, cp_u_at, nc, false_and, hn, c1, hV, e1, e2, e3, z1, z2, cp_uu, leN (show v < 1000 by omega) (show (75 * q.1 + 74) % 65537 % 100 < 1000 by omega), sh1 (show b < 8 by omega), or_nI h2 hpb, nI_1]
    refine ⟨fun k => ?_, fun k => ?_⟩
    · have e : sp_dr v b q = ((75 * q.1 + 74) % 65537, q.2) := by
        unfold sp_dr
        rw [if_neg (by omega)]
      rw [e] at hq
      refine ih (b + 1) ((75 * q.1 + 74) % 65537, q.2) _ (by omega) hs h2 ?_ ?_ ?_ ?_ hq <;> simp [cp_s1_at, cp_nl_int, cp_nl_ref, l0, l1, l2]
    · have e : sp_dr v b q = ((75 * q.1 + 74) % 65537, q.2 ||| 2 ^ b) := by
        unfold sp_dr
        rw [if_pos (by omega)]
      rw [e] at hq
      refine ih (b + 1) ((75 * q.1 + 74) % 65537, q.2 ||| 2 ^ b) _ (by omega) hs (or_lt64 h2 hpb) ?_ ?_ ?_ ?_ hq <;> simp [cp_s1_at, cp_nl_int, cp_nl_ref, l0, l1]
theorem c_Vis_draw {v s : Nat} (hc : tk c) (hn6 : n ≤ 6) (hn : I c 4 = nI n) (hv : v ≤ 100) (hV : I c 3 = nI v) (hs : s < 65537) (h : Q (some (.int (nI (fo (sp_dr v) n 0 (s, 0)).2))) SH (cp_u I 43 0 (nI (fo (sp_dr v) n 0 (s, 0)).1)) J (PP t u r x)) : MW g false (d + 1) 0 0 m_Vis_drawCompany [.ref 43, .ref c] SH (cp_u I 43 0 (nI s)) J (PP t u r x) Q := by
  refine MW.of ok_Vis_drawCompany (Nat.le_of_ble_eq_true rfl) ?_
  refine cp_run 20 (fun t => t == 4) ck_Vis_drawCompany ?_
  simp only [cp_vc, cp_vs, cp_jm, cp_ent_en, cp_en_int, cp_en_ref, cp_en_ret, cp_en_long, cp_en_nil, cp_s1_at, cp_s2_at, cp_nl_int, cp_nl_ref, cp_nl_long, cp_nl_none, cp_pop_0, cp_pop_s, reduceIte, if_true, if_false, Bool.false_eq_true, Bool.true_eq_false, false_implies, implies_true, forall_const, true_implies, true_and, and_true, and_self, true_or, or_true, false_or, or_false, Value.category, List.length_cons, List.length_nil, Option.toList_some, Option.toList_none, List.cons_append, List.nil_append, List.append_nil, Prod.mk.injEq, Nat.add_zero, Nat.zero_add, Nat.reduceAdd, Nat.reduceSub, Nat.reduceEqDiff, Nat.reduceLeDiff, Nat.reduceLT, Nat.le_refl, beq_self_eq_true, Nat.reduceBEq, ne_eq, not_true_eq_false, not_false_eq_true, Int32.reduceAdd, Int32.reduceSub, Int32.reduceMul, Int32.reduceLE, Int32.reduceLT, Int32.reduceToNatClampNeg, b01_0, b01_1, ne_2_0, ne_3_0, ne_4_0, ne_5_0, ne_6_0, ne_m1_0, ne_m2_0, b01_01, b01_n, lt_m2, lt_m1, le_m2, le_m1, Classical.not_not, j_Vis_drawCompany_0, b_Vis_drawCompany_0, j_Vis_drawCompany_49, b_Vis_drawCompany_49, j_Vis_drawCompany_55, b_Vis_drawCompany_55, an_0, an_1, cl_0, cl_1, cl_100, cl_74, cl_75, ne_0_1, ne_1_0, sh_43, vi_0, vi_1, vi_100, vi_74, vi_75]
  refine lp_Vis_draw hc hn6 hn hv hV n 0 (s, 0) _ (by omega) hs (by simp) ?_ ?_ ?_ ?_ h <;> simp [cp_s1_at, cp_ent_en, cp_en_ref, cp_en_int, cp_nl_ref, cp_nl_int, nI_0]
/-- the seed, and how many who stay (or minutes), morning by morning -/
def cmo (n v : Nat) (f : Nat → Nat) : Nat → Nat × Nat → Nat × Nat := fun _ q => ((fo (sp_dr v) n 0 (q.1, 0)).1, q.2 + f (fo (sp_dr v) n 0 (q.1, 0)).2)
theorem c43 {v : Int32} : cs (cp_u I 43 0 v) = cs I ∧ cb (cp_u I 43 0 v) t n = cb I t n ∨ ¬ tk t := by
  by_cases ht : tk t
  · left
    have ew : cw (cp_u I 43 0 v) = cw I := by funext s; unfold cw; rw [cp_u_at, if_neg (by omega)]
    have en : cn (cp_u I 43 0 v) t = cn I t := by
      funext b
      have h2 : t + 2 ≠ 43 := by rcases ht with rfl | rfl <;> omega
      have h3 : t + 3 ≠ 43 := by rcases ht with rfl | rfl <;> omega
      unfold cn
      rw [cp_u_at, if_neg (fun z => h2 z.1), cp_u_at, if_neg (fun z => h3 z.1)]
    refine ⟨?_, ?_⟩
    · funext s
      unfold cs
      rw [ew, cp_u_at, if_neg (by omega)]
    · funext s
      unfold cb
      rw [ew, en]
  · exact Or.inr ht
theorem c43s (ht : tk t) {v : Int32} : sp_stS (cs (cp_u I 43 0 v)) (cb (cp_u I 43 0 v) t n) = sp_stS (cs I) (cb I t n) := by
  rcases c43 (I := I) (t := t) (n := n) (v := v) with ⟨h1, h2⟩ | h
  · rw [h1, h2]
  · exact absurd ht h
theorem stS_lt {S : Nat → Bool} {B : Nat → Nat} (hB : ∀ s, B s < 64) : ∀ (f s : Nat), s < 64 → (sp_stS S B f s).1 < 64
  | 0, _, h => h
  | f + 1, s, h => by
    rw [sp_stS]
    split
    · exact h
    · exact stS_lt hB f _ (hB s)
theorem lp_Vis_stays {v b N : Nat} (hc : cT I t n) (hv : v ≤ 100) (hV : I t 3 = nI v) (hb : b < 6) (hN : N ≤ 60) : ∀ (m k : Nat) (q : Nat × Nat) (L : cp_Lo), k + m = N → q.1 < 65537 → L 0 = some (.ref 43) → L 1 = some (.ref 15) → L 2 = some (.int (nI b)) → L 4 = some (.int (nI N)) → L 5 = some (.int (nI q.2)) → L 6 = some (.int (nI k)) →
    Q (some (.int (nI (fo (cmo n v (fun s => if ((sp_stS (cs I) (cb I t n) 7 s).1).testBit b = true then 1 else 0)) m k q).2))) SH (cp_u I 43 0 (nI (fo (cmo n v (fun s => if ((sp_stS (cs I) (cb I t n) 7 s).1).testBit b = true then 1 else 0)) m k q).1)) J (PP t u r x) → RW g false (d + 5) 0 0 m_Vis_countStays 0 0 11 L [] SH (cp_u I 43 0 (nI q.1)) J (PP t u r x) Q := by
  obtain ⟨ht, hn6, hn, he⟩ := id hc
  intro m
  induction m with
  | zero =>
    intro k q L hk h1 l0 l1 l2 l4 l5 l6 hq
    have c1 : nI N ≤ nI k := nI_le (by omega) (by omega)
    refine cp_run 30 (fun t => t == 11) ck_Vis_countStays ?_
    rw [j_Vis_countStays_11, b_Vis_countStays_11]
    simp only [cp_vc, cp_vs, cp_jm, cp_ent_en, cp_en_int, cp_en_ref, cp_en_ret, cp_en_long, cp_en_nil, cp_s1_at, cp_s2_at, cp_nl_int, cp_nl_ref, cp_nl_long, cp_nl_none, cp_pop_0, cp_pop_s, reduceIte, if_true, if_false, Bool.false_eq_true, Bool.true_eq_false, false_implies, implies_true, forall_const, true_implies, true_and, and_true, and_self, true_or, or_true, false_or, or_false, Value.category, List.length_cons, List.length_nil, Option.toList_some, Option.toList_none, List.cons_append, List.nil_append, List.append_nil, Prod.mk.injEq, Nat.add_zero, Nat.zero_add, Nat.reduceAdd, Nat.reduceSub, Nat.reduceEqDiff, Nat.reduceLeDiff, Nat.reduceLT, Nat.le_refl, beq_self_eq_true, Nat.reduceBEq, ne_eq, not_true_eq_false, not_false_eq_true, Int32.reduceAdd, Int32.reduceSub, Int32.reduceMul, Int32.reduceLE, Int32.reduceLT, Int32.reduceToNatClampNeg, b01_0, b01_1, ne_2_0, ne_3_0, ne_4_0, ne_5_0, ne_6_0, ne_m1_0, ne_m2_0, b01_01, b01_n, lt_m2, lt_m1, le_m2, le_m1, Classical.not_not, j_Vis_countStays_0, b_Vis_countStays_0, j_Vis_countStays_45, b_Vis_countStays_45, an_0, an_1, cl_0, cl_1, ne_0_1, ne_1_0, pp_15_0, sh_15, sh_43, vi_0, vi_1, l0, l1, l2, l4, l5, l6, c1]
    exact hq
  | succ m ih =>
    intro k q L hk h1 l0 l1 l2 l4 l5 l6 hq
    have c1 : ¬ nI N ≤ nI k := nI_ge (by omega) (by omega)
    obtain ⟨d1, d2⟩ := cdr_lt (v := v) n 0 (q.1, 0) (by omega) h1 (by simp)
    rw [fo] at hq
    refine cp_run 40 (fun t => t == 11) ck_Vis_countStays ?_
    rw [j_Vis_countStays_11, b_Vis_countStays_11]
    simp only [cp_vc, cp_vs, cp_jm, cp_ent_en, cp_en_int, cp_en_ref, cp_en_ret, cp_en_long, cp_en_nil, cp_s1_at, cp_s2_at, cp_nl_int, cp_nl_ref, cp_nl_long, cp_nl_none, cp_pop_0, cp_pop_s, reduceIte, if_true, if_false, Bool.false_eq_true, Bool.true_eq_false, false_implies, implies_true, forall_const, true_implies, true_and, and_true, and_self, true_or, or_true, false_or, or_false, Value.category, List.length_cons, List.length_nil, Option.toList_some, Option.toList_none, List.cons_append, List.nil_append, List.append_nil, Prod.mk.injEq, Nat.add_zero, Nat.zero_add, Nat.reduceAdd, Nat.reduceSub, Nat.reduceEqDiff, Nat.reduceLeDiff, Nat.reduceLT, Nat.le_refl, beq_self_eq_true, Nat.reduceBEq, ne_eq, not_true_eq_false, not_false_eq_true, Int32.reduceAdd, Int32.reduceSub, Int32.reduceMul, Int32.reduceLE, Int32.reduceLT, Int32.reduceToNatClampNeg, b01_0, b01_1, ne_2_0, ne_3_0, ne_4_0, ne_5_0, ne_6_0, ne_m1_0, ne_m2_0, b01_01, b01_n, lt_m2, lt_m1, le_m2, le_m1, Classical.not_not, j_Vis_countStays_0, b_Vis_countStays_0, j_Vis_countStays_45, b_Vis_countStays_45, an_0, an_1, cl_0, cl_1, ne_0_1, ne_1_0, pp_15_0, sh_15, sh_43, vi_0, vi_1, l0, l1, l2, l4, l5, l6, c1, sh_15, pp_15_0, sT0 ht, sT1 ht, sT2 ht, sT3 ht, sT4 ht, sT5 ht, sT6 ht, sT7 ht, sT8 ht, sT9 ht, pT1 ht, pT2 ht, pT3 ht, pT4 ht, pT5 ht, pT6 ht, pT7 ht, pT8 ht, pT9 ht]
    refine c_Vis_draw (d := d + 3) ht hn6 hn hv hV h1 ?_
    simp only [cp_kk, cp_vc, cp_vs, cp_jm, cp_ent_en, cp_en_int, cp_en_ref, cp_en_ret, cp_en_long, cp_en_nil, cp_s1_at, cp_s2_at, cp_nl_int, cp_nl_ref, cp_nl_long, cp_nl_none, cp_pop_0, cp_pop_s, reduceIte, if_true, if_false, Bool.false_eq_true, Bool.true_eq_false, false_implies, implies_true, forall_const, true_implies, true_and, and_true, and_self, true_or, or_true, false_or, or_false, Value.category, List.length_cons, List.length_nil, Option.toList_some, Option.toList_none, List.cons_append, List.nil_append, List.append_nil, Prod.mk.injEq, Nat.add_zero, Nat.zero_add, Nat.reduceAdd, Nat.reduceSub, Nat.reduceEqDiff, Nat.reduceLeDiff, Nat.reduceLT, Nat.le_refl, beq_self_eq_true, Nat.reduceBEq, ne_eq, not_true_eq_false, not_false_eq_true, Int32.reduceAdd, Int32.reduceSub, Int32.reduceMul, Int32.reduceLE, Int32.reduceLT, Int32.reduceToNatClampNeg, b01_0, b01_1, ne_2_0, ne_3_0, ne_4_0, ne_5_0, ne_6_0, ne_m1_0, ne_m2_0, b01_01, b01_n, lt_m2, lt_m1, le_m2, le_m1, Classical.not_not, Bool.or_false, Bool.false_or, Bool.true_or, Bool.or_true, j_Vis_countStays_0, b_Vis_countStays_0, j_Vis_countStays_45, b_Vis_countStays_45, an_0, an_1, cl_0, cl_1, ne_0_1, ne_1_0, pp_15_0, sh_15, sh_43, vi_0, vi_1, sh_15]
    refine c_Bath_leftOf (cT_43 hc _) d2 ?_
    rw [c43s ht]
    have hst := stS_lt (S := cs I) (B := cb I t n) (fun s => cb_lt hc s) 7 _ d2
    have e1 : nI q.2 + (nI (sp_stS (cs I) (cb I t n) 7 (fo (sp_dr v) n 0 (q.1, 0)).2).1 >>> (nI b &&& 31) &&& 1) = nI (q.2 + (if ((sp_stS (cs I) (cb I t n) 7 (fo (sp_dr v) n 0 (q.1, 0)).2).1).testBit b = true then 1 else 0)) := by
      rw [hb_val hst (by omega), ← nI_add]
      split <;> rfl
    simp only [cp_kk, cp_vc, cp_vs, cp_jm, cp_ent_en, cp_en_int, cp_en_ref, cp_en_ret, cp_en_long, cp_en_nil, cp_s1_at, cp_s2_at, cp_nl_int, cp_nl_ref, cp_nl_long, cp_nl_none, cp_pop_0, cp_pop_s, reduceIte, if_true, if_false, Bool.false_eq_true, Bool.true_eq_false, false_implies, implies_true, forall_const, true_implies, true_and, and_true, and_self, true_or, or_true, false_or, or_false, Value.category, List.length_cons, List.length_nil, Option.toList_some, Option.toList_none, List.cons_append, List.nil_append, List.append_nil, Prod.mk.injEq, Nat.add_zero, Nat.zero_add, Nat.reduceAdd, Nat.reduceSub, Nat.reduceEqDiff, Nat.reduceLeDiff, Nat.reduceLT, Nat.le_refl, beq_self_eq_true, Nat.reduceBEq, ne_eq, not_true_eq_false, not_false_eq_true, Int32.reduceAdd, Int32.reduceSub, Int32.reduceMul, Int32.reduceLE, Int32.reduceLT, Int32.reduceToNatClampNeg, b01_0, b01_1, ne_2_0, ne_3_0, ne_4_0, ne_5_0, ne_6_0, ne_m1_0, ne_m2_0, b01_01, b01_n, lt_m2, lt_m1, le_m2, le_m1, Classical.not_not, Bool.or_false, Bool.false_or, Bool.true_or, Bool.or_true, j_Vis_countStays_0, b_Vis_countStays_0, j_Vis_countStays_45, b_Vis_countStays_45, an_0, an_1, cl_0, cl_1, ne_0_1, ne_1_0, pp_15_0, sh_15, sh_43, vi_0, vi_1, l0, l1, l2, l4, l5, l6, e1, nI_1]
    refine ih (k + 1) (cmo n v (fun s => if ((sp_stS (cs I) (cb I t n) 7 s).1).testBit b = true then 1 else 0) k q) _ (by omega) d1 ?_ ?_ ?_ ?_ ?_ ?_ hq <;> simp [cp_s1_at, cp_nl_int, cp_nl_ref, l0, l1, l2, l4, cmo]
theorem c_Vis_stays {v b N s : Nat} (hc : cT I t n) (hv : v ≤ 100) (hV : I t 3 = nI v) (hb : b < 6) (hN : N ≤ 60) (hs : s < 65537) (h : Q (some (.int (nI (fo (cmo n v (fun s => if ((sp_stS (cs I) (cb I t n) 7 s).1).testBit b = true then 1 else 0)) N 0 (s, 0)).2))) SH (cp_u I 43 0 (nI (fo (cmo n v (fun s => if ((sp_stS (cs I) (cb I t n) 7 s).1).testBit b = true then 1 else 0)) N 0 (s, 0)).1)) J (PP t u r x)) : MW g false (d + 5) 0 0 m_Vis_countStays [.ref 43, .ref 15, .int (nI b), .int (nI s), .int (nI N)] SH I J (PP t u r x) Q := by
  refine MW.of ok_Vis_countStays (Nat.le_of_ble_eq_true rfl) ?_
  refine cp_run 20 (fun t => t == 11) ck_Vis_countStays ?_
  simp only [cp_vc, cp_vs, cp_jm, cp_ent_en, cp_en_int, cp_en_ref, cp_en_ret, cp_en_long, cp_en_nil, cp_s1_at, cp_s2_at, cp_nl_int, cp_nl_ref, cp_nl_long, cp_nl_none, cp_pop_0, cp_pop_s, reduceIte, if_true, if_false, Bool.false_eq_true, Bool.true_eq_false, false_implies, implies_true, forall_const, true_implies, true_and, and_true, and_self, true_or, or_true, false_or, or_false, Value.category, List.length_cons, List.length_nil, Option.toList_some, Option.toList_none, List.cons_append, List.nil_append, List.append_nil, Prod.mk.injEq, Nat.add_zero, Nat.zero_add, Nat.reduceAdd, Nat.reduceSub, Nat.reduceEqDiff, Nat.reduceLeDiff, Nat.reduceLT, Nat.le_refl, beq_self_eq_true, Nat.reduceBEq, ne_eq, not_true_eq_false, not_false_eq_true, Int32.reduceAdd, Int32.reduceSub, Int32.reduceMul, Int32.reduceLE, Int32.reduceLT, Int32.reduceToNatClampNeg, b01_0, b01_1, ne_2_0, ne_3_0, ne_4_0, ne_5_0, ne_6_0, ne_m1_0, ne_m2_0, b01_01, b01_n, lt_m2, lt_m1, le_m2, le_m1, Classical.not_not, j_Vis_countStays_0, b_Vis_countStays_0, j_Vis_countStays_45, b_Vis_countStays_45, an_0, an_1, cl_0, cl_1, ne_0_1, ne_1_0, pp_15_0, sh_15, sh_43, vi_0, vi_1]
  refine lp_Vis_stays hc hv hV hb hN N 0 (s, 0) _ (by omega) hs ?_ ?_ ?_ ?_ ?_ ?_ h <;> simp [cp_s1_at, cp_ent_en, cp_en_ref, cp_en_int, cp_nl_ref, cp_nl_int, nI_0]
theorem lp_Vis_minutes {v N : Nat} (hc : cT I t n) (hv : v ≤ 100) (hV : I t 3 = nI v) (hN : N ≤ 60) : ∀ (m k : Nat) (q : Nat × Nat) (L : cp_Lo), k + m = N → q.1 < 65537 → L 0 = some (.ref 43) → L 1 = some (.ref 15) → L 3 = some (.int (nI N)) → L 4 = some (.int (nI q.2)) → L 5 = some (.int (nI k)) →
    Q (some (.int (nI (fo (cmo n v (fun s => (sp_stS (cs I) (cb I t n) 7 s).2)) m k q).2))) SH (cp_u I 43 0 (nI (fo (cmo n v (fun s => (sp_stS (cs I) (cb I t n) 7 s).2)) m k q).1)) J (PP t u r x) → RW g false (d + 5) 0 0 m_Vis_countMinutes 0 0 11 L [] SH (cp_u I 43 0 (nI q.1)) J (PP t u r x) Q := by
  obtain ⟨ht, hn6, hn, he⟩ := id hc
  intro m
  induction m with
  | zero =>
    intro k q L hk h1 l0 l1 l3 l4 l5 hq
    have c1 : nI N ≤ nI k := nI_le (by omega) (by omega)
    refine cp_run 30 (fun t => t == 11) ck_Vis_countMinutes ?_
    rw [j_Vis_countMinutes_11, b_Vis_countMinutes_11]
    simp only [cp_vc, cp_vs, cp_jm, cp_ent_en, cp_en_int, cp_en_ref, cp_en_ret, cp_en_long, cp_en_nil, cp_s1_at, cp_s2_at, cp_nl_int, cp_nl_ref, cp_nl_long, cp_nl_none, cp_pop_0, cp_pop_s, reduceIte, if_true, if_false, Bool.false_eq_true, Bool.true_eq_false, false_implies, implies_true, forall_const, true_implies, true_and, and_true, and_self, true_or, or_true, false_or, or_false, Value.category, List.length_cons, List.length_nil, Option.toList_some, Option.toList_none, List.cons_append, List.nil_append, List.append_nil, Prod.mk.injEq, Nat.add_zero, Nat.zero_add, Nat.reduceAdd, Nat.reduceSub, Nat.reduceEqDiff, Nat.reduceLeDiff, Nat.reduceLT, Nat.le_refl, beq_self_eq_true, Nat.reduceBEq, ne_eq, not_true_eq_false, not_false_eq_true, Int32.reduceAdd, Int32.reduceSub, Int32.reduceMul, Int32.reduceLE, Int32.reduceLT, Int32.reduceToNatClampNeg, b01_0, b01_1, ne_2_0, ne_3_0, ne_4_0, ne_5_0, ne_6_0, ne_m1_0, ne_m2_0, b01_01, b01_n, lt_m2, lt_m1, le_m2, le_m1, Classical.not_not, j_Vis_countMinutes_0, b_Vis_countMinutes_0, j_Vis_countMinutes_40, b_Vis_countMinutes_40, an_0, an_1, cl_0, ne_0_1, ne_1_0, pp_15_0, sh_15, sh_43, vi_0, l0, l1, l3, l4, l5, c1]
    exact hq
  | succ m ih =>
    intro k q L hk h1 l0 l1 l3 l4 l5 hq
    have c1 : ¬ nI N ≤ nI k := nI_ge (by omega) (by omega)
    obtain ⟨d1, d2⟩ := cdr_lt (v := v) n 0 (q.1, 0) (by omega) h1 (by simp)
    rw [fo] at hq
    refine cp_run 40 (fun t => t == 11) ck_Vis_countMinutes ?_
    rw [j_Vis_countMinutes_11, b_Vis_countMinutes_11]
    simp only [cp_vc, cp_vs, cp_jm, cp_ent_en, cp_en_int, cp_en_ref, cp_en_ret, cp_en_long, cp_en_nil, cp_s1_at, cp_s2_at, cp_nl_int, cp_nl_ref, cp_nl_long, cp_nl_none, cp_pop_0, cp_pop_s, reduceIte, if_true, if_false, Bool.false_eq_true, Bool.true_eq_false, false_implies, implies_true, forall_const, true_implies, true_and, and_true, and_self, true_or, or_true, false_or, or_false, Value.category, List.length_cons, List.length_nil, Option.toList_some, Option.toList_none, List.cons_append, List.nil_append, List.append_nil, Prod.mk.injEq, Nat.add_zero, Nat.zero_add, Nat.reduceAdd, Nat.reduceSub, Nat.reduceEqDiff, Nat.reduceLeDiff, Nat.reduceLT, Nat.le_refl, beq_self_eq_true, Nat.reduceBEq, ne_eq, not_true_eq_false, not_false_eq_true, Int32.reduceAdd, Int32.reduceSub, Int32.reduceMul, Int32.reduceLE, Int32.reduceLT, Int32.reduceToNatClampNeg, b01_0, b01_1, ne_2_0, ne_3_0, ne_4_0, ne_5_0, ne_6_0, ne_m1_0, ne_m2_0, b01_01, b01_n, lt_m2, lt_m1, le_m2, le_m1, Classical.not_not, j_Vis_countMinutes_0, b_Vis_countMinutes_0, j_Vis_countMinutes_40, b_Vis_countMinutes_40, an_0, an_1, cl_0, ne_0_1, ne_1_0, pp_15_0, sh_15, sh_43, vi_0, l0, l1, l3, l4, l5, c1, sh_15, pp_15_0, sT0 ht, sT1 ht, sT2 ht, sT3 ht, sT4 ht, sT5 ht, sT6 ht, sT7 ht, sT8 ht, sT9 ht, pT1 ht, pT2 ht, pT3 ht, pT4 ht, pT5 ht, pT6 ht, pT7 ht, pT8 ht, pT9 ht]
    refine c_Vis_draw (d := d + 3) ht hn6 hn hv hV h1 ?_
    simp only [cp_kk, cp_vc, cp_vs, cp_jm, cp_ent_en, cp_en_int, cp_en_ref, cp_en_ret, cp_en_long, cp_en_nil, cp_s1_at, cp_s2_at, cp_nl_int, cp_nl_ref, cp_nl_long, cp_nl_none, cp_pop_0, cp_pop_s, reduceIte, if_true, if_false, Bool.false_eq_true, Bool.true_eq_false, false_implies, implies_true, forall_const, true_implies, true_and, and_true, and_self, true_or, or_true, false_or, or_false, Value.category, List.length_cons, List.length_nil, Option.toList_some, Option.toList_none, List.cons_append, List.nil_append, List.append_nil, Prod.mk.injEq, Nat.add_zero, Nat.zero_add, Nat.reduceAdd, Nat.reduceSub, Nat.reduceEqDiff, Nat.reduceLeDiff, Nat.reduceLT, Nat.le_refl, beq_self_eq_true, Nat.reduceBEq, ne_eq, not_true_eq_false, not_false_eq_true, Int32.reduceAdd, Int32.reduceSub, Int32.reduceMul, Int32.reduceLE, Int32.reduceLT, Int32.reduceToNatClampNeg, b01_0, b01_1, ne_2_0, ne_3_0, ne_4_0, ne_5_0, ne_6_0, ne_m1_0, ne_m2_0, b01_01, b01_n, lt_m2, lt_m1, le_m2, le_m1, Classical.not_not, Bool.or_false, Bool.false_or, Bool.true_or, Bool.or_true, j_Vis_countMinutes_0, b_Vis_countMinutes_0, j_Vis_countMinutes_40, b_Vis_countMinutes_40, an_0, an_1, cl_0, ne_0_1, ne_1_0, pp_15_0, sh_15, sh_43, vi_0, sh_15]
    refine c_Bath_minutesOf (cT_43 hc _) d2 ?_
    rw [c43s ht]
    simp only [cp_kk, cp_vc, cp_vs, cp_jm, cp_ent_en, cp_en_int, cp_en_ref, cp_en_ret, cp_en_long, cp_en_nil, cp_s1_at, cp_s2_at, cp_nl_int, cp_nl_ref, cp_nl_long, cp_nl_none, cp_pop_0, cp_pop_s, reduceIte, if_true, if_false, Bool.false_eq_true, Bool.true_eq_false, false_implies, implies_true, forall_const, true_implies, true_and, and_true, and_self, true_or, or_true, false_or, or_false, Value.category, List.length_cons, List.length_nil, Option.toList_some, Option.toList_none, List.cons_append, List.nil_append, List.append_nil, Prod.mk.injEq, Nat.add_zero, Nat.zero_add, Nat.reduceAdd, Nat.reduceSub, Nat.reduceEqDiff, Nat.reduceLeDiff, Nat.reduceLT, Nat.le_refl, beq_self_eq_true, Nat.reduceBEq, ne_eq, not_true_eq_false, not_false_eq_true, Int32.reduceAdd, Int32.reduceSub, Int32.reduceMul, Int32.reduceLE, Int32.reduceLT, Int32.reduceToNatClampNeg, b01_0, b01_1, ne_2_0, ne_3_0, ne_4_0, ne_5_0, ne_6_0, ne_m1_0, ne_m2_0, b01_01, b01_n, lt_m2, lt_m1, le_m2, le_m1, Classical.not_not, Bool.or_false, Bool.false_or, Bool.true_or, Bool.or_true, j_Vis_countMinutes_0, b_Vis_countMinutes_0, j_Vis_countMinutes_40, b_Vis_countMinutes_40, an_0, an_1, cl_0, ne_0_1, ne_1_0, pp_15_0, sh_15, sh_43, vi_0, l0, l1, l3, l4, l5, nI_add, nI_1]
    refine ih (k + 1) (cmo n v (fun s => (sp_stS (cs I) (cb I t n) 7 s).2) k q) _ (by omega) d1 ?_ ?_ ?_ ?_ ?_ hq <;> simp [cp_s1_at, cp_nl_int, cp_nl_ref, l0, l1, l3, cmo]
theorem c_Vis_minutes {v N s : Nat} (hc : cT I t n) (hv : v ≤ 100) (hV : I t 3 = nI v) (hN : N ≤ 60) (hs : s < 65537) (h : Q (some (.int (nI (fo (cmo n v (fun s => (sp_stS (cs I) (cb I t n) 7 s).2)) N 0 (s, 0)).2))) SH (cp_u I 43 0 (nI (fo (cmo n v (fun s => (sp_stS (cs I) (cb I t n) 7 s).2)) N 0 (s, 0)).1)) J (PP t u r x)) : MW g false (d + 5) 0 0 m_Vis_countMinutes [.ref 43, .ref 15, .int (nI s), .int (nI N)] SH I J (PP t u r x) Q := by
  refine MW.of ok_Vis_countMinutes (Nat.le_of_ble_eq_true rfl) ?_
  refine cp_run 20 (fun t => t == 11) ck_Vis_countMinutes ?_
  simp only [cp_vc, cp_vs, cp_jm, cp_ent_en, cp_en_int, cp_en_ref, cp_en_ret, cp_en_long, cp_en_nil, cp_s1_at, cp_s2_at, cp_nl_int, cp_nl_ref, cp_nl_long, cp_nl_none, cp_pop_0, cp_pop_s, reduceIte, if_true, if_false, Bool.false_eq_true, Bool.true_eq_false, false_implies, implies_true, forall_const, true_implies, true_and, and_true, and_self, true_or, or_true, false_or, or_false, Value.category, List.length_cons, List.length_nil, Option.toList_some, Option.toList_none, List.cons_append, List.nil_append, List.append_nil, Prod.mk.injEq, Nat.add_zero, Nat.zero_add, Nat.reduceAdd, Nat.reduceSub, Nat.reduceEqDiff, Nat.reduceLeDiff, Nat.reduceLT, Nat.le_refl, beq_self_eq_true, Nat.reduceBEq, ne_eq, not_true_eq_false, not_false_eq_true, Int32.reduceAdd, Int32.reduceSub, Int32.reduceMul, Int32.reduceLE, Int32.reduceLT, Int32.reduceToNatClampNeg, b01_0, b01_1, ne_2_0, ne_3_0, ne_4_0, ne_5_0, ne_6_0, ne_m1_0, ne_m2_0, b01_01, b01_n, lt_m2, lt_m1, le_m2, le_m1, Classical.not_not, j_Vis_countMinutes_0, b_Vis_countMinutes_0, j_Vis_countMinutes_40, b_Vis_countMinutes_40, an_0, an_1, cl_0, ne_0_1, ne_1_0, pp_15_0, sh_15, sh_43, vi_0]
  refine lp_Vis_minutes hc hv hV hN N 0 (s, 0) _ (by omega) hs ?_ ?_ ?_ ?_ ?_ h <;> simp [cp_s1_at, cp_ent_en, cp_en_ref, cp_en_int, cp_nl_ref, cp_nl_int, nI_0]
end Vis3
