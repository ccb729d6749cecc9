section Mod19
variable {g : cp_G} {d : Nat} {sh : cp_H} {I : cp_I} {J : cp_J} {P : cp_P} {Q : cp_QT} {t u r x : Nat}
/-! the fewest introductions -/
def fi (p : Nat → Option Nat) : Nat → Nat → Option Nat
  | 0, _ => none
  | m + 1, k => match p k with
    | some v => some v
    | none => fi p m (k + 1)
def tieR (T : Nat → Int32) (a b : Nat) (v : Int32) : Nat → Int32 := upd (upd T (6 * a + b) v) (6 * b + a) v
def symR (T : Nat → Int32) : Prop := ∀ a b, a < 6 → b < 6 → T (6 * a + b) = T (6 * b + a)
def sp_tm (S : (Nat → Int32) → Bool) (C : (Nat → Int32) → Nat → Nat → Bool) (n : Nat) : Nat → (Nat → Int32) → Option Nat
  | 0, T => if S T = true then some 0 else none
  | l + 1, T => fi (fun a => fi (fun b => if (C T a b && (sp_tm S C n l (tieR T a b 1)).isSome) = true then some (10 * a + b) else none) (n - (a + 1)) (a + 1)) n 0
def fpw (M : cp_I) (b : Bool) (v : Nat) : cp_I := if b = true then cp_u M 44 29 (nI v) else M
theorem symR_tie {T : Nat → Int32} {a b : Nat} {v : Int32} (ha : a < 6) (hb : b < 6) (h : symR T) : symR (tieR T a b v) := by
  intro i j hi hj
  unfold tieR upd
  have e1 : (6 * i + j = 6 * b + a ↔ i = b ∧ j = a) := by omega
  have e2 : (6 * i + j = 6 * a + b ↔ i = a ∧ j = b) := by omega
  have e3 : (6 * j + i = 6 * b + a ↔ j = b ∧ i = a) := by omega
  have e4 : (6 * j + i = 6 * a + b ↔ j = a ∧ i = b) := by omega
  simp only [e1, e2, e3, e4, h i j hi hj]
  grind
theorem tieR_back {T : Nat → Int32} {a b : Nat} (h1 : T (6 * a + b) = 0) (h2 : T (6 * b + a) = 0) : tieR (tieR T a b 1) a b 0 = T := by
  funext j
  unfold tieR upd
  grind
theorem od_tie (I : cp_I) (c : Nat) (T : Nat → Int32) (a b : Nat) (v : Int32) : cp_u (cp_u (od I c T) c (0 + 6 * a + b) v) c (0 + 6 * b + a) v = od I c (tieR T a b v) := by
  rw [od_u, od_u, Nat.zero_add, Nat.zero_add]
  rfl
theorem od56_47 (I : cp_I) (T : Nat → Int32) (j : Nat) : od I 56 T 47 j = I 47 j := od_o I 56 T (by omega) j
set_option maxRecDepth 20000 in
theorem c_Mod_tryMeetings {n s : Nat} (hn6 : n ≤ 6) (hn : I 47 4 = nI n) (hs : s < 64) : ∀ (l D : Nat) (T : Nat → Int32) (fst : Bool) (Q : cp_QT), D = d + l → l < 1000 → symR T →
    (∀ v, sp_tm (fun T => rs (od I 56 T) n 56 s) (fun T => rm_ (od I 56 T) n 56) n l T = some v → Q (some (.int 1)) SH (if l = 0 then od I 56 T else fpw (od I 56 T) fst v) J (PP t u r x)) →
    (sp_tm (fun T => rs (od I 56 T) n 56 s) (fun T => rm_ (od I 56 T) n 56) n l T = none → Q (some (.int 0)) SH (od I 56 T) J (PP t u r x)) →
    MW g false (D + 6) 0 0 m_Mod_tryMeetings [.ref 44, .int (nI s), .int (nI l), .int (if fst = true then 1 else 0)] SH (od I 56 T) J (PP t u r x) Q := by
  intro l
  induction l with
  | zero =>
    intro D T fst Q hD hl hT h1 h0
    refine MW.of ok_Mod_tryMeetings (Nat.le_of_ble_eq_true rfl) ?_
    refine cp_run 30 (fun t => t == 17) ck_Mod_tryMeetings ?_
    simp only [cp_vc, cp_vs, cp_jm, cp_ent_en, cp_en_int, cp_en_ref, cp_en_ret, cp_en_long, cp_en_nil, cp_s1_at, cp_s2_at, cp_nl_int, cp_nl_ref, cp_nl_long, cp_nl_none, cp_pop_0, cp_pop_s, reduceIte, if_true, if_false, Bool.false_eq_true, Bool.true_eq_false, false_implies, implies_true, forall_const, true_implies, true_and, and_true, and_self, true_or, or_true, false_or, or_false, Value.category, List.length_cons, List.length_nil, Option.toList_some, Option.toList_none, List.cons_append, List.nil_append, List.append_nil, Prod.mk.injEq, Nat.add_zero, Nat.zero_add, Nat.reduceAdd, Nat.reduceSub, Nat.reduceEqDiff, Nat.reduceLeDiff, Nat.reduceLT, Nat.le_refl, beq_self_eq_true, Nat.reduceBEq, ne_eq, not_true_eq_false, not_false_eq_true, Int32.reduceAdd, Int32.reduceSub, Int32.reduceMul, Int32.reduceLE, Int32.reduceLT, Int32.reduceToNatClampNeg, b01_0, b01_1, ne_2_0, ne_3_0, ne_4_0, ne_5_0, ne_6_0, ne_m1_0, ne_m2_0, b01_01, b01_n, lt_m2, lt_m1, le_m2, le_m1, Classical.not_not, j_Mod_tryMeetings_0, b_Mod_tryMeetings_0, j_Mod_tryMeetings_14, b_Mod_tryMeetings_14, j_Mod_tryMeetings_17, b_Mod_tryMeetings_17, j_Mod_tryMeetings_34, b_Mod_tryMeetings_34, j_Mod_tryMeetings_63, b_Mod_tryMeetings_63, j_Mod_tryMeetings_110, b_Mod_tryMeetings_110, j_Mod_tryMeetings_126, b_Mod_tryMeetings_126, j_Mod_tryMeetings_128, b_Mod_tryMeetings_128, j_Mod_tryMeetings_134, b_Mod_tryMeetings_134, j_Mod_tryMeetings_140, b_Mod_tryMeetings_140, an_0, an_1, an_10, an_4, cl_0, cl_1, cl_10, cl_4, ne_0_1, ne_0_4, ne_1_0, ne_1_4, ne_4_0, ne_4_1, pp_44_15, pp_44_28, sh_44, sh_47, sh_56, vi_0, vi_1, vi_10, vi_4, nI_0]
    refine c_Mod_isSnug (I := od I 56 T) sh_56 hs hn6 ((od56_47 I T 4).trans hn) ?_
    simp only [cp_kk, cp_vc, cp_vs, cp_jm, cp_ent_en, cp_en_int, cp_en_ref, cp_en_ret, cp_en_long, cp_en_nil, cp_s1_at, cp_s2_at, cp_nl_int, cp_nl_ref, cp_nl_long, cp_nl_none, cp_pop_0, cp_pop_s, reduceIte, if_true, if_false, Bool.false_eq_true, Bool.true_eq_false, false_implies, implies_true, forall_const, true_implies, true_and, and_true, and_self, true_or, or_true, false_or, or_false, Value.category, List.length_cons, List.length_nil, Option.toList_some, Option.toList_none, List.cons_append, List.nil_append, List.append_nil, Prod.mk.injEq, Nat.add_zero, Nat.zero_add, Nat.reduceAdd, Nat.reduceSub, Nat.reduceEqDiff, Nat.reduceLeDiff, Nat.reduceLT, Nat.le_refl, beq_self_eq_true, Nat.reduceBEq, ne_eq, not_true_eq_false, not_false_eq_true, Int32.reduceAdd, Int32.reduceSub, Int32.reduceMul, Int32.reduceLE, Int32.reduceLT, Int32.reduceToNatClampNeg, b01_0, b01_1, ne_2_0, ne_3_0, ne_4_0, ne_5_0, ne_6_0, ne_m1_0, ne_m2_0, b01_01, b01_n, lt_m2, lt_m1, le_m2, le_m1, Classical.not_not, Bool.or_false, Bool.false_or, Bool.true_or, Bool.or_true, j_Mod_tryMeetings_0, b_Mod_tryMeetings_0, j_Mod_tryMeetings_14, b_Mod_tryMeetings_14, j_Mod_tryMeetings_17, b_Mod_tryMeetings_17, j_Mod_tryMeetings_34, b_Mod_tryMeetings_34, j_Mod_tryMeetings_63, b_Mod_tryMeetings_63, j_Mod_tryMeetings_110, b_Mod_tryMeetings_110, j_Mod_tryMeetings_126, b_Mod_tryMeetings_126, j_Mod_tryMeetings_128, b_Mod_tryMeetings_128, j_Mod_tryMeetings_134, b_Mod_tryMeetings_134, j_Mod_tryMeetings_140, b_Mod_tryMeetings_140, an_0, an_1, an_10, an_4, cl_0, cl_1, cl_10, cl_4, ne_0_1, ne_0_4, ne_1_0, ne_1_4, ne_4_0, ne_4_1, pp_44_15, pp_44_28, sh_44, sh_47, sh_56, vi_0, vi_1, vi_10, vi_4]
    simp only [sp_tm] at h1 h0
    by_cases c : rs (od I 56 T) n 56 s = true
    · rw [if_pos c]
      exact h1 0 (if_pos c)
    · rw [if_neg c]
      exact h0 (if_neg c)
  | succ l ih =>
    intro D T fst Q hD hl hT h1 h0
    obtain ⟨D, rfl⟩ : ∃ D', D = D' + 1 := ⟨d + l, by omega⟩
    unfold sp_tm at h1 h0
    generalize hG : sp_tm (fun T => rs (od I 56 T) n 56 s) (fun T => rm_ (od I 56 T) n 56) n l = G at h1 h0 ih
    have hne : ¬ nI (l + 1) = 0 := nI_ne0 (by omega) (by omega)
    have h1' : ∀ v, fi (fun a => fi (fun b => if (rm_ (od I 56 T) n 56 a b && (G (tieR T a b 1)).isSome) = true then some (10 * a + b) else none) (n - (a + 1)) (a + 1)) n 0 = some v → Q (some (.int 1)) SH (fpw (od I 56 T) fst v) J (PP t u r x) := h1
    clear h1
    have inner : ∀ (a : Nat), a < n → ∀ (m b : Nat) (L : cp_Lo), b + m = n → a < b → L 0 = some (.ref 44) → L 1 = some (.int (nI s)) → L 2 = some (.int (nI (l + 1))) → L 3 = some (.int (if fst = true then 1 else 0)) → L 4 = some (.int (nI a)) → L 5 = some (.int (nI b)) →
        (∀ v, fi (fun b => if (rm_ (od I 56 T) n 56 a b && (G (tieR T a b 1)).isSome) = true then some (10 * a + b) else none) m b = some v → Q (some (.int 1)) SH (fpw (od I 56 T) fst v) J (PP t u r x)) →
        (fi (fun b => if (rm_ (od I 56 T) n 56 a b && (G (tieR T a b 1)).isSome) = true then some (10 * a + b) else none) m b = none → ∀ L' : cp_Lo, L' 0 = some (.ref 44) → L' 1 = some (.int (nI s)) → L' 2 = some (.int (nI (l + 1))) → L' 3 = some (.int (if fst = true then 1 else 0)) → L' 4 = some (.int (nI (a + 1))) → RW g false (D + 1 + 6) 0 0 m_Mod_tryMeetings 0 0 17 L' [] SH (od I 56 T) J (PP t u r x) Q) →
        RW g false (D + 1 + 6) 0 0 m_Mod_tryMeetings 0 0 34 L [] SH (od I 56 T) J (PP t u r x) Q := by
      intro a ha m
      induction m with
      | zero =>
        intro b L hb hab l0 l1 l2 l3 l4 l5 k1 k0
        have c1 : nI n ≤ nI b := nI_le (by omega) (by omega)
        refine cp_run 60 (fun t => t == 17 || t == 34) ck_Mod_tryMeetings ?_
        simp only [cp_vc, cp_vs, cp_jm, cp_ent_en, cp_en_int, cp_en_ref, cp_en_ret, cp_en_long, cp_en_nil, cp_s1_at, cp_s2_at, cp_nl_int, cp_nl_ref, cp_nl_long, cp_nl_none, cp_pop_0, cp_pop_s, reduceIte, if_true, if_false, Bool.false_eq_true, Bool.true_eq_false, false_implies, implies_true, forall_const, true_implies, true_and, and_true, and_self, true_or, or_true, false_or, or_false, Value.category, List.length_cons, List.length_nil, Option.toList_some, Option.toList_none, List.cons_append, List.nil_append, List.append_nil, Prod.mk.injEq, Nat.add_zero, Nat.zero_add, Nat.reduceAdd, Nat.reduceSub, Nat.reduceEqDiff, Nat.reduceLeDiff, Nat.reduceLT, Nat.le_refl, beq_self_eq_true, Nat.reduceBEq, ne_eq, not_true_eq_false, not_false_eq_true, Int32.reduceAdd, Int32.reduceSub, Int32.reduceMul, Int32.reduceLE, Int32.reduceLT, Int32.reduceToNatClampNeg, b01_0, b01_1, ne_2_0, ne_3_0, ne_4_0, ne_5_0, ne_6_0, ne_m1_0, ne_m2_0, b01_01, b01_n, lt_m2, lt_m1, le_m2, le_m1, Classical.not_not, Bool.or_false, Bool.false_or, Bool.true_or, Bool.or_true, j_Mod_tryMeetings_0, b_Mod_tryMeetings_0, j_Mod_tryMeetings_14, b_Mod_tryMeetings_14, j_Mod_tryMeetings_17, b_Mod_tryMeetings_17, j_Mod_tryMeetings_34, b_Mod_tryMeetings_34, j_Mod_tryMeetings_63, b_Mod_tryMeetings_63, j_Mod_tryMeetings_110, b_Mod_tryMeetings_110, j_Mod_tryMeetings_126, b_Mod_tryMeetings_126, j_Mod_tryMeetings_128, b_Mod_tryMeetings_128, j_Mod_tryMeetings_134, b_Mod_tryMeetings_134, j_Mod_tryMeetings_140, b_Mod_tryMeetings_140, an_0, an_1, an_10, an_4, cl_0, cl_1, cl_10, cl_4, ne_0_1, ne_0_4, ne_1_0, ne_1_4, ne_4_0, ne_4_1, pp_44_15, pp_44_28, sh_44, sh_47, sh_56, vi_0, vi_1, vi_10, vi_4, l0, l1, l2, l3, l4, l5, c1, od56_47, hn, nI_1]
        refine k0 rfl _ ?_ ?_ ?_ ?_ ?_ <;> simp [cp_s1_at, cp_nl_int, cp_nl_ref, l0, l1, l2, l3]
      | succ m ihm =>
        intro b L hb hab l0 l1 l2 l3 l4 l5 k1 k0
        have c1 : ¬ nI n ≤ nI b := nI_ge (by omega) (by omega)
        have skip : (rm_ (od I 56 T) n 56 a b && (G (tieR T a b 1)).isSome) = false → ∀ L' : cp_Lo, L' 0 = some (.ref 44) → L' 1 = some (.int (nI s)) → L' 2 = some (.int (nI (l + 1))) → L' 3 = some (.int (if fst = true then 1 else 0)) → L' 4 = some (.int (nI a)) → L' 5 = some (.int (nI (b + 1))) → RW g false (D + 1 + 6) 0 0 m_Mod_tryMeetings 0 0 34 L' [] SH (od I 56 T) J (PP t u r x) Q := by
          intro e L' z0 z1 z2 z3 z4 z5
          rw [fi, if_neg (by simp [e])] at k1 k0
          exact ihm (b + 1) L' (by omega) (by omega) z0 z1 z2 z3 z4 z5 k1 k0
        refine cp_run 60 (fun t => t == 17 || t == 34) ck_Mod_tryMeetings ?_
        simp only [cp_vc, cp_vs, cp_jm, cp_ent_en, cp_en_int, cp_en_ref, cp_en_ret, cp_en_long, cp_en_nil, cp_s1_at, cp_s2_at, cp_nl_int, cp_nl_ref, cp_nl_long, cp_nl_none, cp_pop_0, cp_pop_s, reduceIte, if_true, if_false, Bool.false_eq_true, Bool.true_eq_false, false_implies, implies_true, forall_const, true_implies, true_and, and_true, and_self, true_or, or_true, false_or, or_false, Value.category, List.length_cons, List.length_nil, Option.toList_some, Option.toList_none, List.cons_append, List.nil_append, List.append_nil, Prod.mk.injEq, Nat.add_zero, Nat.zero_add, Nat.reduceAdd, Nat.reduceSub, Nat.reduceEqDiff, Nat.reduceLeDiff, Nat.reduceLT, Nat.le_refl, beq_self_eq_true, Nat.reduceBEq, ne_eq, not_true_eq_false, not_false_eq_true, Int32.reduceAdd, Int32.reduceSub, Int32.reduceMul, Int32.reduceLE, Int32.reduceLT, Int32.reduceToNatClampNeg, b01_0, b01_1, ne_2_0, ne_3_0, ne_4_0, ne_5_0, ne_6_0, ne_m1_0, ne_m2_0, b01_01, b01_n, lt_m2, lt_m1, le_m2, le_m1, Classical.not_not, Bool.or_false, Bool.false_or, Bool.true_or, Bool.or_true, j_Mod_tryMeetings_0, b_Mod_tryMeetings_0, j_Mod_tryMeetings_14, b_Mod_tryMeetings_14, j_Mod_tryMeetings_17, b_Mod_tryMeetings_17, j_Mod_tryMeetings_34, b_Mod_tryMeetings_34, j_Mod_tryMeetings_63, b_Mod_tryMeetings_63, j_Mod_tryMeetings_110, b_Mod_tryMeetings_110, j_Mod_tryMeetings_126, b_Mod_tryMeetings_126, j_Mod_tryMeetings_128, b_Mod_tryMeetings_128, j_Mod_tryMeetings_134, b_Mod_tryMeetings_134, j_Mod_tryMeetings_140, b_Mod_tryMeetings_140, an_0, an_1, an_10, an_4, cl_0, cl_1, cl_10, cl_4, ne_0_1, ne_0_4, ne_1_0, ne_1_4, ne_4_0, ne_4_1, pp_44_15, pp_44_28, sh_44, sh_47, sh_56, vi_0, vi_1, vi_10, vi_4, l0, l1, l2, l3, l4, l5, c1, od56_47, hn, nI_1]
        refine c_Mod_canMeetOn (I := od I 56 T) sh_56 (show a < 6 by omega) (show b < 6 by omega) hn6 ((od56_47 I T 4).trans hn) ?_
        simp only [cp_kk, cp_vc, cp_vs, cp_jm, cp_ent_en, cp_en_int, cp_en_ref, cp_en_ret, cp_en_long, cp_en_nil, cp_s1_at, cp_s2_at, cp_nl_int, cp_nl_ref, cp_nl_long, cp_nl_none, cp_pop_0, cp_pop_s, reduceIte, if_true, if_false, Bool.false_eq_true, Bool.true_eq_false, false_implies, implies_true, forall_const, true_implies, true_and, and_true, and_self, true_or, or_true, false_or, or_false, Value.category, List.length_cons, List.length_nil, Option.toList_some, Option.toList_none, List.cons_append, List.nil_append, List.append_nil, Prod.mk.injEq, Nat.add_zero, Nat.zero_add, Nat.reduceAdd, Nat.reduceSub, Nat.reduceEqDiff, Nat.reduceLeDiff, Nat.reduceLT, Nat.le_refl, beq_self_eq_true, Nat.reduceBEq, ne_eq, not_true_eq_false, not_false_eq_true, Int32.reduceAdd, Int32.reduceSub, Int32.reduceMul, Int32.reduceLE, Int32.reduceLT, Int32.reduceToNatClampNeg, b01_0, b01_1, ne_2_0, ne_3_0, ne_4_0, ne_5_0, ne_6_0, ne_m1_0, ne_m2_0, b01_01, b01_n, lt_m2, lt_m1, le_m2, le_m1, Classical.not_not, Bool.or_false, Bool.false_or, Bool.true_or, Bool.or_true, j_Mod_tryMeetings_0, b_Mod_tryMeetings_0, j_Mod_tryMeetings_14, b_Mod_tryMeetings_14, j_Mod_tryMeetings_17, b_Mod_tryMeetings_17, j_Mod_tryMeetings_34, b_Mod_tryMeetings_34, j_Mod_tryMeetings_63, b_Mod_tryMeetings_63, j_Mod_tryMeetings_110, b_Mod_tryMeetings_110, j_Mod_tryMeetings_126, b_Mod_tryMeetings_126, j_Mod_tryMeetings_128, b_Mod_tryMeetings_128, j_Mod_tryMeetings_134, b_Mod_tryMeetings_134, j_Mod_tryMeetings_140, b_Mod_tryMeetings_140, an_0, an_1, an_10, an_4, cl_0, cl_1, cl_10, cl_4, ne_0_1, ne_0_4, ne_1_0, ne_1_4, ne_4_0, ne_4_1, pp_44_15, pp_44_28, sh_44, sh_47, sh_56, vi_0, vi_1, vi_10, vi_4, l0, l1, l2, l3, l4, l5, nI_1]
        refine ⟨fun c2 => ?_, fun c2 => ?_⟩
        · refine c_Mod_tie (fr := 0) sh_56 (by omega) (show a < 6 by omega) (show b < 6 by omega) (by omega) ?_
          rw [od_tie]
          simp only [cp_kk, cp_vc, cp_vs, cp_jm, cp_ent_en, cp_en_int, cp_en_ref, cp_en_ret, cp_en_long, cp_en_nil, cp_s1_at, cp_s2_at, cp_nl_int, cp_nl_ref, cp_nl_long, cp_nl_none, cp_pop_0, cp_pop_s, reduceIte, if_true, if_false, Bool.false_eq_true, Bool.true_eq_false, false_implies, implies_true, forall_const, true_implies, true_and, and_true, and_self, true_or, or_true, false_or, or_false, Value.category, List.length_cons, List.length_nil, Option.toList_some, Option.toList_none, List.cons_append, List.nil_append, List.append_nil, Prod.mk.injEq, Nat.add_zero, Nat.zero_add, Nat.reduceAdd, Nat.reduceSub, Nat.reduceEqDiff, Nat.reduceLeDiff, Nat.reduceLT, Nat.le_refl, beq_self_eq_true, Nat.reduceBEq, ne_eq, not_true_eq_false, not_false_eq_true, Int32.reduceAdd, Int32.reduceSub, Int32.reduceMul, Int32.reduceLE, Int32.reduceLT, Int32.reduceToNatClampNeg, b01_0, b01_1, ne_2_0, ne_3_0, ne_4_0, ne_5_0, ne_6_0, ne_m1_0, ne_m2_0, b01_01, b01_n, lt_m2, lt_m1, le_m2, le_m1, Classical.not_not, Bool.or_false, Bool.false_or, Bool.true_or, Bool.or_true, j_Mod_tryMeetings_0, b_Mod_tryMeetings_0, j_Mod_tryMeetings_14, b_Mod_tryMeetings_14, j_Mod_tryMeetings_17, b_Mod_tryMeetings_17, j_Mod_tryMeetings_34, b_Mod_tryMeetings_34, j_Mod_tryMeetings_63, b_Mod_tryMeetings_63, j_Mod_tryMeetings_110, b_Mod_tryMeetings_110, j_Mod_tryMeetings_126, b_Mod_tryMeetings_126, j_Mod_tryMeetings_128, b_Mod_tryMeetings_128, j_Mod_tryMeetings_134, b_Mod_tryMeetings_134, j_Mod_tryMeetings_140, b_Mod_tryMeetings_140, an_0, an_1, an_10, an_4, cl_0, cl_1, cl_10, cl_4, ne_0_1, ne_0_4, ne_1_0, ne_1_4, ne_4_0, ne_4_1, pp_44_15, pp_44_28, sh_44, sh_47, sh_56, vi_0, vi_1, vi_10, vi_4, l0, l1, l2, l3, l4, l5, nI_1, nI_pred]
          have z1 : T (6 * a + b) = 0 := by
            simp only [rm_, Bool.and_eq_true, decide_eq_true_eq] at c2
            exact c2.1
          have z2 : T (6 * b + a) = 0 := by rw [← hT a b (by omega) (by omega)]; exact z1
          refine ih D (tieR T a b 1) false _ (by omega) (by omega) (symR_tie (by omega) (by omega) hT) (fun v hv => ?_) (fun hv => ?_)
          · have e1 : (rm_ (od I 56 T) n 56 a b && (G (tieR T a b 1)).isSome) = true := by simp [c2, hv]
            have hq := k1 (10 * a + b) (by rw [fi, if_pos e1])
            simp only [fpw, Bool.false_eq_true, if_false, ite_self]
            simp only [cp_kk, cp_vc, cp_vs, cp_jm, cp_ent_en, cp_en_int, cp_en_ref, cp_en_ret, cp_en_long, cp_en_nil, cp_s1_at, cp_s2_at, cp_nl_int, cp_nl_ref, cp_nl_long, cp_nl_none, cp_pop_0, cp_pop_s, reduceIte, if_true, if_false, Bool.false_eq_true, Bool.true_eq_false, false_implies, implies_true, forall_const, true_implies, true_and, and_true, and_self, true_or, or_true, false_or, or_false, Value.category, List.length_cons, List.length_nil, Option.toList_some, Option.toList_none, List.cons_append, List.nil_append, List.append_nil, Prod.mk.injEq, Nat.add_zero, Nat.zero_add, Nat.reduceAdd, Nat.reduceSub, Nat.reduceEqDiff, Nat.reduceLeDiff, Nat.reduceLT, Nat.le_refl, beq_self_eq_true, Nat.reduceBEq, ne_eq, not_true_eq_false, not_false_eq_true, Int32.reduceAdd, Int32.reduceSub, Int32.reduceMul, Int32.reduceLE, Int32.reduceLT, Int32.reduceToNatClampNeg, b01_0, b01_1, ne_2_0, ne_3_0, ne_4_0, ne_5_0, ne_6_0, ne_m1_0, ne_m2_0, b01_01, b01_n, lt_m2, lt_m1, le_m2, le_m1, Classical.not_not, Bool.or_false, Bool.false_or, Bool.true_or, Bool.or_true, j_Mod_tryMeetings_0, b_Mod_tryMeetings_0, j_Mod_tryMeetings_14, b_Mod_tryMeetings_14, j_Mod_tryMeetings_17, b_Mod_tryMeetings_17, j_Mod_tryMeetings_34, b_Mod_tryMeetings_34, j_Mod_tryMeetings_63, b_Mod_tryMeetings_63, j_Mod_tryMeetings_110, b_Mod_tryMeetings_110, j_Mod_tryMeetings_126, b_Mod_tryMeetings_126, j_Mod_tryMeetings_128, b_Mod_tryMeetings_128, j_Mod_tryMeetings_134, b_Mod_tryMeetings_134, j_Mod_tryMeetings_140, b_Mod_tryMeetings_140, an_0, an_1, an_10, an_4, cl_0, cl_1, cl_10, cl_4, ne_0_1, ne_0_4, ne_1_0, ne_1_4, ne_4_0, ne_4_1, pp_44_15, pp_44_28, sh_44, sh_47, sh_56, vi_0, vi_1, vi_10, vi_4, l0, l1, l2, l3, l4, l5, nI_1]
            refine c_Mod_tie (fr := 0) sh_56 (by omega) (show a < 6 by omega) (show b < 6 by omega) (by omega) ?_
            rw [od_tie, tieR_back z1 z2]
            have e10 : (10 : Int32) * nI a + nI b = nI (10 * a + b) := by rw [show (10 : Int32) = nI 10 from rfl, pk_mul, nI_add]
            simp only [cp_kk, cp_vc, cp_vs, cp_jm, cp_ent_en, cp_en_int, cp_en_ref, cp_en_ret, cp_en_long, cp_en_nil, cp_s1_at, cp_s2_at, cp_nl_int, cp_nl_ref, cp_nl_long, cp_nl_none, cp_pop_0, cp_pop_s, reduceIte, if_true, if_false, Bool.false_eq_true, Bool.true_eq_false, false_implies, implies_true, forall_const, true_implies, true_and, and_true, and_self, true_or, or_true, false_or, or_false, Value.category, List.length_cons, List.length_nil, Option.toList_some, Option.toList_none, List.cons_append, List.nil_append, List.append_nil, Prod.mk.injEq, Nat.add_zero, Nat.zero_add, Nat.reduceAdd, Nat.reduceSub, Nat.reduceEqDiff, Nat.reduceLeDiff, Nat.reduceLT, Nat.le_refl, beq_self_eq_true, Nat.reduceBEq, ne_eq, not_true_eq_false, not_false_eq_true, Int32.reduceAdd, Int32.reduceSub, Int32.reduceMul, Int32.reduceLE, Int32.reduceLT, Int32.reduceToNatClampNeg, b01_0, b01_1, ne_2_0, ne_3_0, ne_4_0, ne_5_0, ne_6_0, ne_m1_0, ne_m2_0, b01_01, b01_n, lt_m2, lt_m1, le_m2, le_m1, Classical.not_not, Bool.or_false, Bool.false_or, Bool.true_or, Bool.or_true, j_Mod_tryMeetings_0, b_Mod_tryMeetings_0, j_Mod_tryMeetings_14, b_Mod_tryMeetings_14, j_Mod_tryMeetings_17, b_Mod_tryMeetings_17, j_Mod_tryMeetings_34, b_Mod_tryMeetings_34, j_Mod_tryMeetings_63, b_Mod_tryMeetings_63, j_Mod_tryMeetings_110, b_Mod_tryMeetings_110, j_Mod_tryMeetings_126, b_Mod_tryMeetings_126, j_Mod_tryMeetings_128, b_Mod_tryMeetings_128, j_Mod_tryMeetings_134, b_Mod_tryMeetings_134, j_Mod_tryMeetings_140, b_Mod_tryMeetings_140, an_0, an_1, an_10, an_4, cl_0, cl_1, cl_10, cl_4, ne_0_1, ne_0_4, ne_1_0, ne_1_4, ne_4_0, ne_4_1, pp_44_15, pp_44_28, sh_44, sh_47, sh_56, vi_0, vi_1, vi_10, vi_4, l0, l1, l2, l3, l4, l5, nI_1, e10]
            unfold fpw at hq
            refine ⟨fun b5 => ?_, fun b5 => ?_⟩
            · rw [if_neg b5] at hq
              exact hq
            · rw [if_pos b5] at hq
              exact hq
          · simp only [cp_kk, cp_vc, cp_vs, cp_jm, cp_ent_en, cp_en_int, cp_en_ref, cp_en_ret, cp_en_long, cp_en_nil, cp_s1_at, cp_s2_at, cp_nl_int, cp_nl_ref, cp_nl_long, cp_nl_none, cp_pop_0, cp_pop_s, reduceIte, if_true, if_false, Bool.false_eq_true, Bool.true_eq_false, false_implies, implies_true, forall_const, true_implies, true_and, and_true, and_self, true_or, or_true, false_or, or_false, Value.category, List.length_cons, List.length_nil, Option.toList_some, Option.toList_none, List.cons_append, List.nil_append, List.append_nil, Prod.mk.injEq, Nat.add_zero, Nat.zero_add, Nat.reduceAdd, Nat.reduceSub, Nat.reduceEqDiff, Nat.reduceLeDiff, Nat.reduceLT, Nat.le_refl, beq_self_eq_true, Nat.reduceBEq, ne_eq, not_true_eq_false, not_false_eq_true, Int32.reduceAdd, Int32.reduceSub, Int32.reduceMul, Int32.reduceLE, Int32.reduceLT, Int32.reduceToNatClampNeg, b01_0, b01_1, ne_2_0, ne_3_0, ne_4_0, ne_5_0, ne_6_0, ne_m1_0, ne_m2_0, b01_01, b01_n, lt_m2, lt_m1, le_m2, le_m1, Classical.not_not, Bool.or_false, Bool.false_or, Bool.true_or, Bool.or_true, j_Mod_tryMeetings_0, b_Mod_tryMeetings_0, j_Mod_tryMeetings_14, b_Mod_tryMeetings_14, j_Mod_tryMeetings_17, b_Mod_tryMeetings_17, j_Mod_tryMeetings_34, b_Mod_tryMeetings_34, j_Mod_tryMeetings_63, b_Mod_tryMeetings_63, j_Mod_tryMeetings_110, b_Mod_tryMeetings_110, j_Mod_tryMeetings_126, b_Mod_tryMeetings_126, j_Mod_tryMeetings_128, b_Mod_tryMeetings_128, j_Mod_tryMeetings_134, b_Mod_tryMeetings_134, j_Mod_tryMeetings_140, b_Mod_tryMeetings_140, an_0, an_1, an_10, an_4, cl_0, cl_1, cl_10, cl_4, ne_0_1, ne_0_4, ne_1_0, ne_1_4, ne_4_0, ne_4_1, pp_44_15, pp_44_28, sh_44, sh_47, sh_56, vi_0, vi_1, vi_10, vi_4, l0, l1, l2, l3, l4, l5, nI_1]
            refine c_Mod_tie (fr := 0) sh_56 (by omega) (show a < 6 by omega) (show b < 6 by omega) (by omega) ?_
            rw [od_tie, tieR_back z1 z2]
            simp only [cp_kk, cp_vc, cp_vs, cp_jm, cp_ent_en, cp_en_int, cp_en_ref, cp_en_ret, cp_en_long, cp_en_nil, cp_s1_at, cp_s2_at, cp_nl_int, cp_nl_ref, cp_nl_long, cp_nl_none, cp_pop_0, cp_pop_s, reduceIte, if_true, if_false, Bool.false_eq_true, Bool.true_eq_false, false_implies, implies_true, forall_const, true_implies, true_and, and_true, and_self, true_or, or_true, false_or, or_false, Value.category, List.length_cons, List.length_nil, Option.toList_some, Option.toList_none, List.cons_append, List.nil_append, List.append_nil, Prod.mk.injEq, Nat.add_zero, Nat.zero_add, Nat.reduceAdd, Nat.reduceSub, Nat.reduceEqDiff, Nat.reduceLeDiff, Nat.reduceLT, Nat.le_refl, beq_self_eq_true, Nat.reduceBEq, ne_eq, not_true_eq_false, not_false_eq_true, Int32.reduceAdd, Int32.reduceSub, Int32.reduceMul, Int32.reduceLE, Int32.reduceLT, Int32.reduceToNatClampNeg, b01_0, b01_1, ne_2_0, ne_3_0, ne_4_0, ne_5_0, ne_6_0, ne_m1_0, ne_m2_0, b01_01, b01_n, lt_m2, lt_m1, le_m2, le_m1, Classical.not_not, Bool.or_false, Bool.false_or, Bool.true_or, Bool.or_true, j_Mod_tryMeetings_0, b_Mod_tryMeetings_0, j_Mod_tryMeetings_14, b_Mod_tryMeetings_14, j_Mod_tryMeetings_17, b_Mod_tryMeetings_17, j_Mod_tryMeetings_34, b_Mod_tryMeetings_34, j_Mod_tryMeetings_63, b_Mod_tryMeetings_63, j_Mod_tryMeetings_110, b_Mod_tryMeetings_110, j_Mod_tryMeetings_126, b_Mod_tryMeetings_126, j_Mod_tryMeetings_128, b_Mod_tryMeetings_128, j_Mod_tryMeetings_134, b_Mod_tryMeetings_134, j_Mod_tryMeetings_140, b_Mod_tryMeetings_140, an_0, an_1, an_10, an_4, cl_0, cl_1, cl_10, cl_4, ne_0_1, ne_0_4, ne_1_0, ne_1_4, ne_4_0, ne_4_1, pp_44_15, pp_44_28, sh_44, sh_47, sh_56, vi_0, vi_1, vi_10, vi_4, l0, l1, l2, l3, l4, l5, nI_1]
            refine skip (by simp [hv]) _ ?_ ?_ ?_ ?_ ?_ ?_ <;> simp [cp_s1_at, cp_nl_int, cp_nl_ref, l0, l1, l2, l3, l4, l5, nI_1]
        · refine skip (by simp [c2]) _ ?_ ?_ ?_ ?_ ?_ ?_ <;> simp [cp_s1_at, cp_nl_int, cp_nl_ref, l0, l1, l2, l3, l4, l5, nI_1]
    have outer : ∀ (m a : Nat) (L : cp_Lo), a + m = n → L 0 = some (.ref 44) → L 1 = some (.int (nI s)) → L 2 = some (.int (nI (l + 1))) → L 3 = some (.int (if fst = true then 1 else 0)) → L 4 = some (.int (nI a)) →
        (∀ v, fi (fun a => fi (fun b => if (rm_ (od I 56 T) n 56 a b && (G (tieR T a b 1)).isSome) = true then some (10 * a + b) else none) (n - (a + 1)) (a + 1)) m a = some v → Q (some (.int 1)) SH (fpw (od I 56 T) fst v) J (PP t u r x)) →
        (fi (fun a => fi (fun b => if (rm_ (od I 56 T) n 56 a b && (G (tieR T a b 1)).isSome) = true then some (10 * a + b) else none) (n - (a + 1)) (a + 1)) m a = none → Q (some (.int 0)) SH (od I 56 T) J (PP t u r x)) →
        RW g false (D + 1 + 6) 0 0 m_Mod_tryMeetings 0 0 17 L [] SH (od I 56 T) J (PP t u r x) Q := by
      intro m
      induction m with
      | zero =>
        intro a L ha l0 l1 l2 l3 l4 k1 k0
        have c1 : nI n ≤ nI a := nI_le (by omega) (by omega)
        refine cp_run 60 (fun t => t == 17 || t == 34) ck_Mod_tryMeetings ?_
        simp only [cp_vc, cp_vs, cp_jm, cp_ent_en, cp_en_int, cp_en_ref, cp_en_ret, cp_en_long, cp_en_nil, cp_s1_at, cp_s2_at, cp_nl_int, cp_nl_ref, cp_nl_long, cp_nl_none, cp_pop_0, cp_pop_s, reduceIte, if_true, if_false, Bool.false_eq_true, Bool.true_eq_false, false_implies, implies_true, forall_const, true_implies, true_and, and_true, and_self, true_or, or_true, false_or, or_false, Value.category, List.length_cons, List.length_nil, Option.toList_some, Option.toList_none, List.cons_append, List.nil_append, List.append_nil, Prod.mk.injEq, Nat.add_zero, Nat.zero_add, Nat.reduceAdd, Nat.reduceSub, Nat.reduceEqDiff, Nat.reduceLeDiff, Nat.reduceLT, Nat.le_refl, beq_self_eq_true, Nat.reduceBEq, ne_eq, not_true_eq_false, not_false_eq_true, Int32.reduceAdd, Int32.reduceSub, Int32.reduceMul, Int32.reduceLE, Int32.reduceLT, Int32.reduceToNatClampNeg, b01_0, b01_1, ne_2_0, ne_3_0, ne_4_0, ne_5_0, ne_6_0, ne_m1_0, ne_m2_0, b01_01, b01_n, lt_m2, lt_m1, le_m2, le_m1, Classical.not_not, Bool.or_false, Bool.false_or, Bool.true_or, Bool.or_true, j_Mod_tryMeetings_0, b_Mod_tryMeetings_0, j_Mod_tryMeetings_14, b_Mod_tryMeetings_14, j_Mod_tryMeetings_17, b_Mod_tryMeetings_17, j_Mod_tryMeetings_34, b_Mod_tryMeetings_34, j_Mod_tryMeetings_63, b_Mod_tryMeetings_63, j_Mod_tryMeetings_110, b_Mod_tryMeetings_110, j_Mod_tryMeetings_126, b_Mod_tryMeetings_126, j_Mod_tryMeetings_128, b_Mod_tryMeetings_128, j_Mod_tryMeetings_134, b_Mod_tryMeetings_134, j_Mod_tryMeetings_140, b_Mod_tryMeetings_140, an_0, an_1, an_10, an_4, cl_0, cl_1, cl_10, cl_4, ne_0_1, ne_0_4, ne_1_0, ne_1_4, ne_4_0, ne_4_1, pp_44_15, pp_44_28, sh_44, sh_47, sh_56, vi_0, vi_1, vi_10, vi_4, l0, l1, l2, l3, l4, c1, od56_47, hn, nI_1]
        exact k0 rfl
      | succ m ihm =>
        intro a L ha l0 l1 l2 l3 l4 k1 k0
        have c1 : ¬ nI n ≤ nI a := nI_ge (by omega) (by omega)
        refine cp_run 60 (fun t => t == 17 || t == 34) ck_Mod_tryMeetings ?_
        simp only [cp_vc, cp_vs, cp_jm, cp_ent_en, cp_en_int, cp_en_ref, cp_en_ret, cp_en_long, cp_en_nil, cp_s1_at, cp_s2_at, cp_nl_int, cp_nl_ref, cp_nl_long, cp_nl_none, cp_pop_0, cp_pop_s, reduceIte, if_true, if_false, Bool.false_eq_true, Bool.true_eq_false, false_implies, implies_true, forall_const, true_implies, true_and, and_true, and_self, true_or, or_true, false_or, or_false, Value.category, List.length_cons, List.length_nil, Option.toList_some, Option.toList_none, List.cons_append, List.nil_append, List.append_nil, Prod.mk.injEq, Nat.add_zero, Nat.zero_add, Nat.reduceAdd, Nat.reduceSub, Nat.reduceEqDiff, Nat.reduceLeDiff, Nat.reduceLT, Nat.le_refl, beq_self_eq_true, Nat.reduceBEq, ne_eq, not_true_eq_false, not_false_eq_true, Int32.reduceAdd, Int32.reduceSub, Int32.reduceMul, Int32.reduceLE, Int32.reduceLT, Int32.reduceToNatClampNeg, b01_0, b01_1, ne_2_0, ne_3_0, ne_4_0, ne_5_0, ne_6_0, ne_m1_0, ne_m2_0, b01_01, b01_n, lt_m2, lt_m1, le_m2, le_m1, Classical.not_not, Bool.or_false, Bool.false_or, Bool.true_or, Bool.or_true, j_Mod_tryMeetings_0, b_Mod_tryMeetings_0, j_Mod_tryMeetings_14, b_Mod_tryMeetings_14, j_Mod_tryMeetings_17, b_Mod_tryMeetings_17, j_Mod_tryMeetings_34, b_Mod_tryMeetings_34, j_Mod_tryMeetings_63, b_Mod_tryMeetings_63, j_Mod_tryMeetings_110, b_Mod_tryMeetings_110, j_Mod_tryMeetings_126, b_Mod_tryMeetings_126, j_Mod_tryMeetings_128, b_Mod_tryMeetings_128, j_Mod_tryMeetings_134, b_Mod_tryMeetings_134, j_Mod_tryMeetings_140, b_Mod_tryMeetings_140, an_0, an_1, an_10, an_4, cl_0, cl_1, cl_10, cl_4, ne_0_1, ne_0_4, ne_1_0, ne_1_4, ne_4_0, ne_4_1, pp_44_15, pp_44_28, sh_44, sh_47, sh_56, vi_0, vi_1, vi_10, vi_4, l0, l1, l2, l3, l4, c1, od56_47, hn, nI_1]
        refine inner a (by omega) (n - (a + 1)) (a + 1) _ (by omega) (by omega) ?_ ?_ ?_ ?_ ?_ ?_ (fun v hv => ?_) (fun hv L' z0 z1 z2 z3 z4 => ?_)
        case refine_7 => exact k1 v (by rw [fi, hv])
        case refine_8 =>
          refine ihm (a + 1) L' (by omega) z0 z1 z2 z3 z4 (fun v hv' => k1 v ?_) (fun hv' => k0 ?_)
          · rw [fi, hv]
            exact hv'
          · rw [fi, hv]
            exact hv'
        all_goals simp [cp_s1_at, cp_nl_int, cp_nl_ref, l0, l1, l2, l3, l4]
    refine MW.of ok_Mod_tryMeetings (Nat.le_of_ble_eq_true rfl) ?_
    refine cp_run 30 (fun t => t == 17) ck_Mod_tryMeetings ?_
    simp only [cp_vc, cp_vs, cp_jm, cp_ent_en, cp_en_int, cp_en_ref, cp_en_ret, cp_en_long, cp_en_nil, cp_s1_at, cp_s2_at, cp_nl_int, cp_nl_ref, cp_nl_long, cp_nl_none, cp_pop_0, cp_pop_s, reduceIte, if_true, if_false, Bool.false_eq_true, Bool.true_eq_false, false_implies, implies_true, forall_const, true_implies, true_and, and_true, and_self, true_or, or_true, false_or, or_false, Value.category, List.length_cons, List.length_nil, Option.toList_some, Option.toList_none, List.cons_append, List.nil_append, List.append_nil, Prod.mk.injEq, Nat.add_zero, Nat.zero_add, Nat.reduceAdd, Nat.reduceSub, Nat.reduceEqDiff, Nat.reduceLeDiff, Nat.reduceLT, Nat.le_refl, beq_self_eq_true, Nat.reduceBEq, ne_eq, not_true_eq_false, not_false_eq_true, Int32.reduceAdd, Int32.reduceSub, Int32.reduceMul, Int32.reduceLE, Int32.reduceLT, Int32.reduceToNatClampNeg, b01_0, b01_1, ne_2_0, ne_3_0, ne_4_0, ne_5_0, ne_6_0, ne_m1_0, ne_m2_0, b01_01, b01_n, lt_m2, lt_m1, le_m2, le_m1, Classical.not_not, j_Mod_tryMeetings_0, b_Mod_tryMeetings_0, j_Mod_tryMeetings_14, b_Mod_tryMeetings_14, j_Mod_tryMeetings_17, b_Mod_tryMeetings_17, j_Mod_tryMeetings_34, b_Mod_tryMeetings_34, j_Mod_tryMeetings_63, b_Mod_tryMeetings_63, j_Mod_tryMeetings_110, b_Mod_tryMeetings_110, j_Mod_tryMeetings_126, b_Mod_tryMeetings_126, j_Mod_tryMeetings_128, b_Mod_tryMeetings_128, j_Mod_tryMeetings_134, b_Mod_tryMeetings_134, j_Mod_tryMeetings_140, b_Mod_tryMeetings_140, an_0, an_1, an_10, an_4, cl_0, cl_1, cl_10, cl_4, ne_0_1, ne_0_4, ne_1_0, ne_1_4, ne_4_0, ne_4_1, pp_44_15, pp_44_28, sh_44, sh_47, sh_56, vi_0, vi_1, vi_10, vi_4, hne]
    refine outer n 0 _ (by omega) ?_ ?_ ?_ ?_ ?_ h1' h0 <;> simp [cp_s1_at, cp_ent_en, cp_en_int, cp_en_ref, cp_nl_int, cp_nl_ref, nI_0]
/-- the trial as it is begun -/
def tr0 (I : cp_I) : Nat → Int32 := fun j => if j < 39 then I 49 j else I 56 j
def tmk (I : cp_I) (n s k : Nat) : Option Nat := sp_tm (fun T => rs (od I 56 T) n 56 s) (fun T => rm_ (od I 56 T) n 56) n k (tr0 I)
def rfK (I : cp_I) (n s : Nat) : Option Nat := fi (fun k => if (tmk I n s k).isSome = true then some k else none) 4 0
def rfP (I : cp_I) (n s : Nat) : Int32 := match rfK I n s with
  | none => -2
  | some 0 => -2
  | some (k + 1) => oI (tmk I n s (k + 1))
/-- the memory behind a search for introductions -/
def rfM (I : cp_I) (w : Int32) : cp_I := od (cp_u I 44 29 w) 56 (tr0 I)
theorem rfM_0 (I : cp_I) (w : Int32) : cp_u (cpy I 49 0 56 0 39) 44 29 w = rfM I w := by
  funext a j
  by_cases h : a = 56
  · subst h
    by_cases h2 : j < 39 <;> simp [rfM, od, tr0, cpy, cp_u, h2]
  · simp [rfM, od, cpy, cp_u, h]
theorem rfM_u (I : cp_I) (w v : Int32) : cp_u (rfM I w) 44 29 v = rfM I v := by
  funext a j
  by_cases h : a = 44 ∧ j = 29
  · simp [rfM, od, cp_u, h]
  · by_cases h2 : a = 56
    · subst h2
      simp [rfM, od, cp_u]
    · simp [rfM, od, cp_u, h, h2]
theorem od_u29 (I : cp_I) (w : Int32) (T : Nat → Int32) (n ρ s : Nat) (hρ : ρ ≠ 44) : rs (od (cp_u I 44 29 w) 56 T) n ρ s = rs (od I 56 T) n ρ s := by
  have h47 : ∀ j, od (cp_u I 44 29 w) 56 T 47 j = od I 56 T 47 j := fun j => by simp [od, cp_u]
  have hr : ∀ j, od (cp_u I 44 29 w) 56 T ρ j = od I 56 T ρ j := fun j => by simp [od, cp_u, hρ]
  unfold rs rb rw_
  rw [rn_c h47, rt_c hr, h47, h47]
theorem od_m29 (I : cp_I) (w : Int32) (T : Nat → Int32) (n : Nat) : rm_ (od (cp_u I 44 29 w) 56 T) n 56 = rm_ (od I 56 T) n 56 := by
  have hr : ∀ j, od (cp_u I 44 29 w) 56 T 56 j = od I 56 T 56 j := fun j => by simp [od]
  funext a b
  unfold rm_
  rw [rt_c hr, rk_c hr]
theorem fi_c {p q : Nat → Option Nat} (h : ∀ k, p k = q k) : ∀ (m k : Nat), fi p m k = fi q m k := by
  intro m
  rw [funext h]
  intro k
  rfl
theorem c_Mod_tm {n s l : Nat} {w : Int32} {fst : Bool} (hn6 : n ≤ 6) (hn : I 47 4 = nI n) (hs : s < 64) (hl : l ≤ 3) (hsym : symR (I 49))
    (h1 : ∀ v, tmk I n s l = some v → Q (some (.int 1)) SH (if l = 0 then rfM I w else fpw (rfM I w) fst v) J (PP t u r x))
    (h0 : tmk I n s l = none → Q (some (.int 0)) SH (rfM I w) J (PP t u r x)) :
    MW g false (d + 9) 0 0 m_Mod_tryMeetings [.ref 44, .int (nI s), .int (nI l), .int (if fst = true then 1 else 0)] SH (rfM I w) J (PP t u r x) Q := by
  have hT : symR (tr0 I) := by
    intro a b ha hb
    unfold tr0
    rw [if_pos (by omega), if_pos (by omega)]
    exact hsym a b ha hb
  have e : sp_tm (fun T => rs (od (cp_u I 44 29 w) 56 T) n 56 s) (fun T => rm_ (od (cp_u I 44 29 w) 56 T) n 56) n l (tr0 I) = tmk I n s l := by
    unfold tmk
    congr 1
  refine c_Mod_tryMeetings (I := cp_u I 44 29 w) (d := d + (3 - l)) hn6 (by rw [u47]; exact hn) hs l (d + 3) (tr0 I) fst Q (by omega) (by omega) hT ?_ ?_
  · rw [e]
    exact h1
  · rw [e]
    exact h0
theorem c_Mod_fewestOf {n s : Nat} (hn6 : n ≤ 6) (hn : I 47 4 = nI n) (hs : s < 64) (hsym : symR (I 49)) (h : Q (some (.int (oI (rfK I n s)))) SH (rfM I (rfP I n s)) J (PP t u r x)) : MW g false (d + 10) 0 0 m_Mod_fewestOf [.ref 44, .int (nI s)] SH I J (PP t u r x) Q := by
  have lp : ∀ (m k : Nat) (L : cp_Lo), k + m = 4 → L 0 = some (.ref 44) → L 1 = some (.int (nI s)) → L 2 = some (.int (nI k)) →
      (∀ v, fi (fun k => if (tmk I n s k).isSome = true then some k else none) m k = some v → Q (some (.int (nI v))) SH (rfM I (if v = 0 then -2 else oI (tmk I n s v))) J (PP t u r x)) →
      (fi (fun k => if (tmk I n s k).isSome = true then some k else none) m k = none → Q (some (.int (-2))) SH (rfM I (-2)) J (PP t u r x)) →
      RW g false (d + 10) 0 0 m_Mod_fewestOf 0 0 23 L [] SH (rfM I (-2)) J (PP t u r x) Q := by
    intro m
    induction m with
    | zero =>
      intro k L hk l0 l1 l2 h1 h0
      obtain rfl : k = 4 := by omega
      have c1 : (3 : Int32) < nI 4 := by decide +kernel
      refine cp_run 60 (fun t => t == 23) ck_Mod_fewestOf ?_
      simp only [cp_vc, cp_vs, cp_jm, cp_ent_en, cp_en_int, cp_en_ref, cp_en_ret, cp_en_long, cp_en_nil, cp_s1_at, cp_s2_at, cp_nl_int, cp_nl_ref, cp_nl_long, cp_nl_none, cp_pop_0, cp_pop_s, reduceIte, if_true, if_false, Bool.false_eq_true, Bool.true_eq_false, false_implies, implies_true, forall_const, true_implies, true_and, and_true, and_self, true_or, or_true, false_or, or_false, Value.category, List.length_cons, List.length_nil, Option.toList_some, Option.toList_none, List.cons_append, List.nil_append, List.append_nil, Prod.mk.injEq, Nat.add_zero, Nat.zero_add, Nat.reduceAdd, Nat.reduceSub, Nat.reduceEqDiff, Nat.reduceLeDiff, Nat.reduceLT, Nat.le_refl, beq_self_eq_true, Nat.reduceBEq, ne_eq, not_true_eq_false, not_false_eq_true, Int32.reduceAdd, Int32.reduceSub, Int32.reduceMul, Int32.reduceLE, Int32.reduceLT, Int32.reduceToNatClampNeg, b01_0, b01_1, ne_2_0, ne_3_0, ne_4_0, ne_5_0, ne_6_0, ne_m1_0, ne_m2_0, b01_01, b01_n, lt_m2, lt_m1, le_m2, le_m1, Classical.not_not, j_Mod_fewestOf_0, b_Mod_fewestOf_0, j_Mod_fewestOf_23, b_Mod_fewestOf_23, j_Mod_fewestOf_40, b_Mod_fewestOf_40, j_Mod_fewestOf_46, b_Mod_fewestOf_46, an_0, an_1, an_3, cl_0, cl_1, cl_3, cl_39, ne_0_1, ne_0_3, ne_0_m2, ne_1_0, ne_1_3, ne_1_m2, ne_3_0, ne_3_1, ne_3_m2, ne_m2_0, ne_m2_1, ne_m2_3, pp_44_17, pp_44_28, sh_44, sh_49, sh_56, vi_0, vi_1, vi_3, vi_39, l0, l1, l2, c1]
      exact h0 rfl
    | succ m ih =>
      intro k L hk l0 l1 l2 h1 h0
      have c1 : ¬ (3 : Int32) < nI k := nI_nlt (a := 3) (b := k) (by omega) (by omega)
      refine cp_run 60 (fun t => t == 23) ck_Mod_fewestOf ?_
      simp only [cp_vc, cp_vs, cp_jm, cp_ent_en, cp_en_int, cp_en_ref, cp_en_ret, cp_en_long, cp_en_nil, cp_s1_at, cp_s2_at, cp_nl_int, cp_nl_ref, cp_nl_long, cp_nl_none, cp_pop_0, cp_pop_s, reduceIte, if_true, if_false, Bool.false_eq_true, Bool.true_eq_false, false_implies, implies_true, forall_const, true_implies, true_and, and_true, and_self, true_or, or_true, false_or, or_false, Value.category, List.length_cons, List.length_nil, Option.toList_some, Option.toList_none, List.cons_append, List.nil_append, List.append_nil, Prod.mk.injEq, Nat.add_zero, Nat.zero_add, Nat.reduceAdd, Nat.reduceSub, Nat.reduceEqDiff, Nat.reduceLeDiff, Nat.reduceLT, Nat.le_refl, beq_self_eq_true, Nat.reduceBEq, ne_eq, not_true_eq_false, not_false_eq_true, Int32.reduceAdd, Int32.reduceSub, Int32.reduceMul, Int32.reduceLE, Int32.reduceLT, Int32.reduceToNatClampNeg, b01_0, b01_1, ne_2_0, ne_3_0, ne_4_0, ne_5_0, ne_6_0, ne_m1_0, ne_m2_0, b01_01, b01_n, lt_m2, lt_m1, le_m2, le_m1, Classical.not_not, j_Mod_fewestOf_0, b_Mod_fewestOf_0, j_Mod_fewestOf_23, b_Mod_fewestOf_23, j_Mod_fewestOf_40, b_Mod_fewestOf_40, j_Mod_fewestOf_46, b_Mod_fewestOf_46, an_0, an_1, an_3, cl_0, cl_1, cl_3, cl_39, ne_0_1, ne_0_3, ne_0_m2, ne_1_0, ne_1_3, ne_1_m2, ne_3_0, ne_3_1, ne_3_m2, ne_m2_0, ne_m2_1, ne_m2_3, pp_44_17, pp_44_28, sh_44, sh_49, sh_56, vi_0, vi_1, vi_3, vi_39, l0, l1, l2, c1]
      rw [fi] at h1 h0
      refine c_Mod_tm (fst := true) hn6 hn hs (by omega) hsym (fun v hv => ?_) (fun hv => ?_)
      · simp only [cp_kk, cp_vc, cp_vs, cp_jm, cp_ent_en, cp_en_int, cp_en_ref, cp_en_ret, cp_en_long, cp_en_nil, cp_s1_at, cp_s2_at, cp_nl_int, cp_nl_ref, cp_nl_long, cp_nl_none, cp_pop_0, cp_pop_s, reduceIte, if_true, if_false, Bool.false_eq_true, Bool.true_eq_false, false_implies, implies_true, forall_const, true_implies, true_and, and_true, and_self, true_or, or_true, false_or, or_false, Value.category, List.length_cons, List.length_nil, Option.toList_some, Option.toList_none, List.cons_append, List.nil_append, List.append_nil, Prod.mk.injEq, Nat.add_zero, Nat.zero_add, Nat.reduceAdd, Nat.reduceSub, Nat.reduceEqDiff, Nat.reduceLeDiff, Nat.reduceLT, Nat.le_refl, beq_self_eq_true, Nat.reduceBEq, ne_eq, not_true_eq_false, not_false_eq_true, Int32.reduceAdd, Int32.reduceSub, Int32.reduceMul, Int32.reduceLE, Int32.reduceLT, Int32.reduceToNatClampNeg, b01_0, b01_1, ne_2_0, ne_3_0, ne_4_0, ne_5_0, ne_6_0, ne_m1_0, ne_m2_0, b01_01, b01_n, lt_m2, lt_m1, le_m2, le_m1, Classical.not_not, Bool.or_false, Bool.false_or, Bool.true_or, Bool.or_true, j_Mod_fewestOf_0, b_Mod_fewestOf_0, j_Mod_fewestOf_23, b_Mod_fewestOf_23, j_Mod_fewestOf_40, b_Mod_fewestOf_40, j_Mod_fewestOf_46, b_Mod_fewestOf_46, an_0, an_1, an_3, cl_0, cl_1, cl_3, cl_39, ne_0_1, ne_0_3, ne_0_m2, ne_1_0, ne_1_3, ne_1_m2, ne_3_0, ne_3_1, ne_3_m2, ne_m2_0, ne_m2_1, ne_m2_3, pp_44_17, pp_44_28, sh_44, sh_49, sh_56, vi_0, vi_1, vi_3, vi_39, l0, l1, l2, nI_1]
        have hq := h1 k (by simp [hv])
        by_cases hk0 : k = 0
        · rw [if_pos hk0] at hq ⊢
          exact hq
        · rw [if_neg hk0, hv] at hq
          rw [if_neg hk0]
          simp only [fpw, if_true, rfM_u]
          exact hq
      · simp only [cp_kk, cp_vc, cp_vs, cp_jm, cp_ent_en, cp_en_int, cp_en_ref, cp_en_ret, cp_en_long, cp_en_nil, cp_s1_at, cp_s2_at, cp_nl_int, cp_nl_ref, cp_nl_long, cp_nl_none, cp_pop_0, cp_pop_s, reduceIte, if_true, if_false, Bool.false_eq_true, Bool.true_eq_false, false_implies, implies_true, forall_const, true_implies, true_and, and_true, and_self, true_or, or_true, false_or, or_false, Value.category, List.length_cons, List.length_nil, Option.toList_some, Option.toList_none, List.cons_append, List.nil_append, List.append_nil, Prod.mk.injEq, Nat.add_zero, Nat.zero_add, Nat.reduceAdd, Nat.reduceSub, Nat.reduceEqDiff, Nat.reduceLeDiff, Nat.reduceLT, Nat.le_refl, beq_self_eq_true, Nat.reduceBEq, ne_eq, not_true_eq_false, not_false_eq_true, Int32.reduceAdd, Int32.reduceSub, Int32.reduceMul, Int32.reduceLE, Int32.reduceLT, Int32.reduceToNatClampNeg, b01_0, b01_1, ne_2_0, ne_3_0, ne_4_0, ne_5_0, ne_6_0, ne_m1_0, ne_m2_0, b01_01, b01_n, lt_m2, lt_m1, le_m2, le_m1, Classical.not_not, Bool.or_false, Bool.false_or, Bool.true_or, Bool.or_true, j_Mod_fewestOf_0, b_Mod_fewestOf_0, j_Mod_fewestOf_23, b_Mod_fewestOf_23, j_Mod_fewestOf_40, b_Mod_fewestOf_40, j_Mod_fewestOf_46, b_Mod_fewestOf_46, an_0, an_1, an_3, cl_0, cl_1, cl_3, cl_39, ne_0_1, ne_0_3, ne_0_m2, ne_1_0, ne_1_3, ne_1_m2, ne_3_0, ne_3_1, ne_3_m2, ne_m2_0, ne_m2_1, ne_m2_3, pp_44_17, pp_44_28, sh_44, sh_49, sh_56, vi_0, vi_1, vi_3, vi_39, l0, l1, l2, nI_1]
        have e : (if (tmk I n s k).isSome = true then some k else none) = none := by simp [hv]
        rw [e] at h1 h0
        refine ih (k + 1) _ (by omega) ?_ ?_ ?_ h1 h0 <;> simp [cp_s1_at, cp_nl_int, cp_nl_ref, l0, l1, l2]
  refine MW.of ok_Mod_fewestOf (Nat.le_of_ble_eq_true rfl) ?_
  refine cp_run 30 (fun t => t == 23) ck_Mod_fewestOf ?_
  simp only [cp_vc, cp_vs, cp_jm, cp_ent_en, cp_en_int, cp_en_ref, cp_en_ret, cp_en_long, cp_en_nil, cp_s1_at, cp_s2_at, cp_nl_int, cp_nl_ref, cp_nl_long, cp_nl_none, cp_pop_0, cp_pop_s, reduceIte, if_true, if_false, Bool.false_eq_true, Bool.true_eq_false, false_implies, implies_true, forall_const, true_implies, true_and, and_true, and_self, true_or, or_true, false_or, or_false, Value.category, List.length_cons, List.length_nil, Option.toList_some, Option.toList_none, List.cons_append, List.nil_append, List.append_nil, Prod.mk.injEq, Nat.add_zero, Nat.zero_add, Nat.reduceAdd, Nat.reduceSub, Nat.reduceEqDiff, Nat.reduceLeDiff, Nat.reduceLT, Nat.le_refl, beq_self_eq_true, Nat.reduceBEq, ne_eq, not_true_eq_false, not_false_eq_true, Int32.reduceAdd, Int32.reduceSub, Int32.reduceMul, Int32.reduceLE, Int32.reduceLT, Int32.reduceToNatClampNeg, b01_0, b01_1, ne_2_0, ne_3_0, ne_4_0, ne_5_0, ne_6_0, ne_m1_0, ne_m2_0, b01_01, b01_n, lt_m2, lt_m1, le_m2, le_m1, Classical.not_not, j_Mod_fewestOf_0, b_Mod_fewestOf_0, j_Mod_fewestOf_23, b_Mod_fewestOf_23, j_Mod_fewestOf_40, b_Mod_fewestOf_40, j_Mod_fewestOf_46, b_Mod_fewestOf_46, an_0, an_1, an_3, cl_0, cl_1, cl_3, cl_39, ne_0_1, ne_0_3, ne_0_m2, ne_1_0, ne_1_3, ne_1_m2, ne_3_0, ne_3_1, ne_3_m2, ne_m2_0, ne_m2_1, ne_m2_3, pp_44_17, pp_44_28, sh_44, sh_49, sh_56, vi_0, vi_1, vi_3, vi_39]
  refine c_Mod_copy (f := 49) (a := 0) (e := 56) (i := 0) (n := 39) sh_49 sh_56 (by omega) (by omega) (by omega) (by omega) (by omega) ?_
  simp only [cp_kk, cp_vc, cp_vs, cp_jm, cp_ent_en, cp_en_int, cp_en_ref, cp_en_ret, cp_en_long, cp_en_nil, cp_s1_at, cp_s2_at, cp_nl_int, cp_nl_ref, cp_nl_long, cp_nl_none, cp_pop_0, cp_pop_s, reduceIte, if_true, if_false, Bool.false_eq_true, Bool.true_eq_false, false_implies, implies_true, forall_const, true_implies, true_and, and_true, and_self, true_or, or_true, false_or, or_false, Value.category, List.length_cons, List.length_nil, Option.toList_some, Option.toList_none, List.cons_append, List.nil_append, List.append_nil, Prod.mk.injEq, Nat.add_zero, Nat.zero_add, Nat.reduceAdd, Nat.reduceSub, Nat.reduceEqDiff, Nat.reduceLeDiff, Nat.reduceLT, Nat.le_refl, beq_self_eq_true, Nat.reduceBEq, ne_eq, not_true_eq_false, not_false_eq_true, Int32.reduceAdd, Int32.reduceSub, Int32.reduceMul, Int32.reduceLE, Int32.reduceLT, Int32.reduceToNatClampNeg, b01_0, b01_1, ne_2_0, ne_3_0, ne_4_0, ne_5_0, ne_6_0, ne_m1_0, ne_m2_0, b01_01, b01_n, lt_m2, lt_m1, le_m2, le_m1, Classical.not_not, Bool.or_false, Bool.false_or, Bool.true_or, Bool.or_true, j_Mod_fewestOf_0, b_Mod_fewestOf_0, j_Mod_fewestOf_23, b_Mod_fewestOf_23, j_Mod_fewestOf_40, b_Mod_fewestOf_40, j_Mod_fewestOf_46, b_Mod_fewestOf_46, an_0, an_1, an_3, cl_0, cl_1, cl_3, cl_39, ne_0_1, ne_0_3, ne_0_m2, ne_1_0, ne_1_3, ne_1_m2, ne_3_0, ne_3_1, ne_3_m2, ne_m2_0, ne_m2_1, ne_m2_3, pp_44_17, pp_44_28, sh_44, sh_49, sh_56, vi_0, vi_1, vi_3, vi_39, rfM_0]
  refine lp 4 0 _ (by omega) ?_ ?_ ?_ (fun v hv => ?_) (fun hv => ?_)
  case refine_4 =>
    have e : rfK I n s = some v := hv
    unfold rfP at h
    rw [e] at h
    cases v with
    | zero => exact h
    | succ v => exact h
  case refine_5 =>
    have e : rfK I n s = none := hv
    unfold rfP at h
    rw [e] at h
    exact h
  all_goals simp [cp_s1_at, cp_ent_en, cp_en_int, cp_en_ref, cp_nl_int, cp_nl_ref, nI_0]
theorem tmk_gd (I : cp_I) (n s : Nat) : tmk (gd I) n s = tmk I n s := by
  funext k
  have h47 : ∀ (T : Nat → Int32) j, od (gd I) 56 T 47 j = od I 56 T 47 j := fun T j => by simp [od, gd, cp_u]
  have hr : ∀ (T : Nat → Int32) j, od (gd I) 56 T 56 j = od I 56 T 56 j := fun T j => by simp [od]
  have e0 : tr0 (gd I) = tr0 I := by
    funext j
    simp [tr0, gd, cp_u]
  unfold tmk
  rw [e0]
  congr 1
theorem rfK_gd (I : cp_I) (n s : Nat) : rfK (gd I) n s = rfK I n s := by unfold rfK; rw [tmk_gd]
theorem rfP_gd (I : cp_I) (n s : Nat) : rfP (gd I) n s = rfP I n s := by unfold rfP; rw [rfK_gd, tmk_gd]
theorem symR_gd {I : cp_I} (h : symR (I 49)) : symR (gd I 49) := by
  intro a b ha hb
  rw [gd49, gd49]
  exact h a b ha hb
theorem c_Mod_fewest {n : Nat} {a : Int32} (hn6 : n ≤ 6) (hn : I 47 4 = nI n) (h01 : I 44 14 = 0 ∨ I 44 14 = 1) (hsym : symR (I 49)) (h1 : ∀ s, sw I n a = 0 → s < 64 → a = nI s → Q (some (.int (oI (rfK I n s)))) SH (rfM (gd I) (rfP I n s)) J (PP t u r x)) (h0 : ¬ sw I n a = 0 → Q (some (.int (-1))) SH (cp_u (gd I) 44 11 (sw I n a)) J (PP t u r x)) : MW g false (d + 11) 0 0 m_Mod_fewest [.ref 44, .int a] SH I J (PP t u r x) Q := by
  refine MW.of ok_Mod_fewest (Nat.le_of_ble_eq_true rfl) ?_
  refine cp_run 30 (fun _ => false) ck_Mod_fewest ?_
  simp only [cp_vc, cp_vs, cp_jm, cp_ent_en, cp_en_int, cp_en_ref, cp_en_ret, cp_en_long, cp_en_nil, cp_s1_at, cp_s2_at, cp_nl_int, cp_nl_ref, cp_nl_long, cp_nl_none, cp_pop_0, cp_pop_s, reduceIte, if_true, if_false, Bool.false_eq_true, Bool.true_eq_false, false_implies, implies_true, forall_const, true_implies, true_and, and_true, and_self, true_or, or_true, false_or, or_false, Value.category, List.length_cons, List.length_nil, Option.toList_some, Option.toList_none, List.cons_append, List.nil_append, List.append_nil, Prod.mk.injEq, Nat.add_zero, Nat.zero_add, Nat.reduceAdd, Nat.reduceSub, Nat.reduceEqDiff, Nat.reduceLeDiff, Nat.reduceLT, Nat.le_refl, beq_self_eq_true, Nat.reduceBEq, ne_eq, not_true_eq_false, not_false_eq_true, Int32.reduceAdd, Int32.reduceSub, Int32.reduceMul, Int32.reduceLE, Int32.reduceLT, Int32.reduceToNatClampNeg, b01_0, b01_1, ne_2_0, ne_3_0, ne_4_0, ne_5_0, ne_6_0, ne_m1_0, ne_m2_0, b01_01, b01_n, lt_m2, lt_m1, le_m2, le_m1, Classical.not_not, j_Mod_fewest_0, b_Mod_fewest_0, j_Mod_fewest_22, b_Mod_fewest_22, j_Mod_fewest_27, b_Mod_fewest_27, an_0, an_1, ne_0_1, ne_1_0, sh_44]
  refine c_Mod_gd ?_
  simp only [cp_kk, cp_vc, cp_vs, cp_jm, cp_ent_en, cp_en_int, cp_en_ref, cp_en_ret, cp_en_long, cp_en_nil, cp_s1_at, cp_s2_at, cp_nl_int, cp_nl_ref, cp_nl_long, cp_nl_none, cp_pop_0, cp_pop_s, reduceIte, if_true, if_false, Bool.false_eq_true, Bool.true_eq_false, false_implies, implies_true, forall_const, true_implies, true_and, and_true, and_self, true_or, or_true, false_or, or_false, Value.category, List.length_cons, List.length_nil, Option.toList_some, Option.toList_none, List.cons_append, List.nil_append, List.append_nil, Prod.mk.injEq, Nat.add_zero, Nat.zero_add, Nat.reduceAdd, Nat.reduceSub, Nat.reduceEqDiff, Nat.reduceLeDiff, Nat.reduceLT, Nat.le_refl, beq_self_eq_true, Nat.reduceBEq, ne_eq, not_true_eq_false, not_false_eq_true, Int32.reduceAdd, Int32.reduceSub, Int32.reduceMul, Int32.reduceLE, Int32.reduceLT, Int32.reduceToNatClampNeg, b01_0, b01_1, ne_2_0, ne_3_0, ne_4_0, ne_5_0, ne_6_0, ne_m1_0, ne_m2_0, b01_01, b01_n, lt_m2, lt_m1, le_m2, le_m1, Classical.not_not, Bool.or_false, Bool.false_or, Bool.true_or, Bool.or_true, j_Mod_fewest_0, b_Mod_fewest_0, j_Mod_fewest_22, b_Mod_fewest_22, j_Mod_fewest_27, b_Mod_fewest_27, an_0, an_1, ne_0_1, ne_1_0, sh_44]
  refine c_Mod_setWhy hn6 (by rw [gd47]; exact hn) (by rw [gd_14]; exact h01) ?_
  rw [sw_gd]
  simp only [cp_kk, cp_vc, cp_vs, cp_jm, cp_ent_en, cp_en_int, cp_en_ref, cp_en_ret, cp_en_long, cp_en_nil, cp_s1_at, cp_s2_at, cp_nl_int, cp_nl_ref, cp_nl_long, cp_nl_none, cp_pop_0, cp_pop_s, reduceIte, if_true, if_false, Bool.false_eq_true, Bool.true_eq_false, false_implies, implies_true, forall_const, true_implies, true_and, and_true, and_self, true_or, or_true, false_or, or_false, Value.category, List.length_cons, List.length_nil, Option.toList_some, Option.toList_none, List.cons_append, List.nil_append, List.append_nil, Prod.mk.injEq, Nat.add_zero, Nat.zero_add, Nat.reduceAdd, Nat.reduceSub, Nat.reduceEqDiff, Nat.reduceLeDiff, Nat.reduceLT, Nat.le_refl, beq_self_eq_true, Nat.reduceBEq, ne_eq, not_true_eq_false, not_false_eq_true, Int32.reduceAdd, Int32.reduceSub, Int32.reduceMul, Int32.reduceLE, Int32.reduceLT, Int32.reduceToNatClampNeg, b01_0, b01_1, ne_2_0, ne_3_0, ne_4_0, ne_5_0, ne_6_0, ne_m1_0, ne_m2_0, b01_01, b01_n, lt_m2, lt_m1, le_m2, le_m1, Classical.not_not, Bool.or_false, Bool.false_or, Bool.true_or, Bool.or_true, j_Mod_fewest_0, b_Mod_fewest_0, j_Mod_fewest_22, b_Mod_fewest_22, j_Mod_fewest_27, b_Mod_fewest_27, an_0, an_1, ne_0_1, ne_1_0, sh_44]
  refine ⟨fun c => ?_, fun c => ?_⟩
  · obtain ⟨-, s, -, hs, rfl⟩ := sw_0 hn6 c
    refine c_Mod_fewestOf hn6 (by rw [gd47]; exact hn) hs (symR_gd hsym) ?_
    rw [rfK_gd, rfP_gd]
    simp only [cp_kk, cp_vc, cp_vs, cp_jm, cp_ent_en, cp_en_int, cp_en_ref, cp_en_ret, cp_en_long, cp_en_nil, cp_s1_at, cp_s2_at, cp_nl_int, cp_nl_ref, cp_nl_long, cp_nl_none, cp_pop_0, cp_pop_s, reduceIte, if_true, if_false, Bool.false_eq_true, Bool.true_eq_false, false_implies, implies_true, forall_const, true_implies, true_and, and_true, and_self, true_or, or_true, false_or, or_false, Value.category, List.length_cons, List.length_nil, Option.toList_some, Option.toList_none, List.cons_append, List.nil_append, List.append_nil, Prod.mk.injEq, Nat.add_zero, Nat.zero_add, Nat.reduceAdd, Nat.reduceSub, Nat.reduceEqDiff, Nat.reduceLeDiff, Nat.reduceLT, Nat.le_refl, beq_self_eq_true, Nat.reduceBEq, ne_eq, not_true_eq_false, not_false_eq_true, Int32.reduceAdd, Int32.reduceSub, Int32.reduceMul, Int32.reduceLE, Int32.reduceLT, Int32.reduceToNatClampNeg, b01_0, b01_1, ne_2_0, ne_3_0, ne_4_0, ne_5_0, ne_6_0, ne_m1_0, ne_m2_0, b01_01, b01_n, lt_m2, lt_m1, le_m2, le_m1, Classical.not_not, Bool.or_false, Bool.false_or, Bool.true_or, Bool.or_true, j_Mod_fewest_0, b_Mod_fewest_0, j_Mod_fewest_22, b_Mod_fewest_22, j_Mod_fewest_27, b_Mod_fewest_27, an_0, an_1, ne_0_1, ne_1_0, sh_44]
    exact h1 s c hs rfl
  · refine c_Mod_no ?_
    simp only [cp_kk, cp_vc, cp_vs, cp_jm, cp_ent_en, cp_en_int, cp_en_ref, cp_en_ret, cp_en_long, cp_en_nil, cp_s1_at, cp_s2_at, cp_nl_int, cp_nl_ref, cp_nl_long, cp_nl_none, cp_pop_0, cp_pop_s, reduceIte, if_true, if_false, Bool.false_eq_true, Bool.true_eq_false, false_implies, implies_true, forall_const, true_implies, true_and, and_true, and_self, true_or, or_true, false_or, or_false, Value.category, List.length_cons, List.length_nil, Option.toList_some, Option.toList_none, List.cons_append, List.nil_append, List.append_nil, Prod.mk.injEq, Nat.add_zero, Nat.zero_add, Nat.reduceAdd, Nat.reduceSub, Nat.reduceEqDiff, Nat.reduceLeDiff, Nat.reduceLT, Nat.le_refl, beq_self_eq_true, Nat.reduceBEq, ne_eq, not_true_eq_false, not_false_eq_true, Int32.reduceAdd, Int32.reduceSub, Int32.reduceMul, Int32.reduceLE, Int32.reduceLT, Int32.reduceToNatClampNeg, b01_0, b01_1, ne_2_0, ne_3_0, ne_4_0, ne_5_0, ne_6_0, ne_m1_0, ne_m2_0, b01_01, b01_n, lt_m2, lt_m1, le_m2, le_m1, Classical.not_not, Bool.or_false, Bool.false_or, Bool.true_or, Bool.or_true, j_Mod_fewest_0, b_Mod_fewest_0, j_Mod_fewest_22, b_Mod_fewest_22, j_Mod_fewest_27, b_Mod_fewest_27, an_0, an_1, ne_0_1, ne_1_0, sh_44]
    exact h0 c
theorem rfM_44 (I : cp_I) (w : Int32) : rfM I w 44 29 = w := by simp [rfM, od, cp_u]
theorem c_Mod_firstMeeting {n : Nat} {a : Int32} (hn6 : n ≤ 6) (hn : I 47 4 = nI n) (h01 : I 44 14 = 0 ∨ I 44 14 = 1) (hsym : symR (I 49)) (h1 : ∀ s, sw I n a = 0 → s < 64 → a = nI s → Q (some (.int (rfP I n s))) SH (rfM (gd I) (rfP I n s)) J (PP t u r x)) (h0 : ¬ sw I n a = 0 → Q (some (.int (-1))) SH (cp_u (gd I) 44 11 (sw I n a)) J (PP t u r x)) : MW g false (d + 11) 0 0 m_Mod_firstMeeting [.ref 44, .int a] SH I J (PP t u r x) Q := by
  refine MW.of ok_Mod_firstMeeting (Nat.le_of_ble_eq_true rfl) ?_
  refine cp_run 30 (fun _ => false) ck_Mod_firstMeeting ?_
  simp only [cp_vc, cp_vs, cp_jm, cp_ent_en, cp_en_int, cp_en_ref, cp_en_ret, cp_en_long, cp_en_nil, cp_s1_at, cp_s2_at, cp_nl_int, cp_nl_ref, cp_nl_long, cp_nl_none, cp_pop_0, cp_pop_s, reduceIte, if_true, if_false, Bool.false_eq_true, Bool.true_eq_false, false_implies, implies_true, forall_const, true_implies, true_and, and_true, and_self, true_or, or_true, false_or, or_false, Value.category, List.length_cons, List.length_nil, Option.toList_some, Option.toList_none, List.cons_append, List.nil_append, List.append_nil, Prod.mk.injEq, Nat.add_zero, Nat.zero_add, Nat.reduceAdd, Nat.reduceSub, Nat.reduceEqDiff, Nat.reduceLeDiff, Nat.reduceLT, Nat.le_refl, beq_self_eq_true, Nat.reduceBEq, ne_eq, not_true_eq_false, not_false_eq_true, Int32.reduceAdd, Int32.reduceSub, Int32.reduceMul, Int32.reduceLE, Int32.reduceLT, Int32.reduceToNatClampNeg, b01_0, b01_1, ne_2_0, ne_3_0, ne_4_0, ne_5_0, ne_6_0, ne_m1_0, ne_m2_0, b01_01, b01_n, lt_m2, lt_m1, le_m2, le_m1, Classical.not_not, j_Mod_firstMeeting_0, b_Mod_firstMeeting_0, j_Mod_firstMeeting_20, b_Mod_firstMeeting_20, an_0, an_1, ne_0_1, ne_1_0, sh_44]
  refine c_Mod_gd ?_
  simp only [cp_kk, cp_vc, cp_vs, cp_jm, cp_ent_en, cp_en_int, cp_en_ref, cp_en_ret, cp_en_long, cp_en_nil, cp_s1_at, cp_s2_at, cp_nl_int, cp_nl_ref, cp_nl_long, cp_nl_none, cp_pop_0, cp_pop_s, reduceIte, if_true, if_false, Bool.false_eq_true, Bool.true_eq_false, false_implies, implies_true, forall_const, true_implies, true_and, and_true, and_self, true_or, or_true, false_or, or_false, Value.category, List.length_cons, List.length_nil, Option.toList_some, Option.toList_none, List.cons_append, List.nil_append, List.append_nil, Prod.mk.injEq, Nat.add_zero, Nat.zero_add, Nat.reduceAdd, Nat.reduceSub, Nat.reduceEqDiff, Nat.reduceLeDiff, Nat.reduceLT, Nat.le_refl, beq_self_eq_true, Nat.reduceBEq, ne_eq, not_true_eq_false, not_false_eq_true, Int32.reduceAdd, Int32.reduceSub, Int32.reduceMul, Int32.reduceLE, Int32.reduceLT, Int32.reduceToNatClampNeg, b01_0, b01_1, ne_2_0, ne_3_0, ne_4_0, ne_5_0, ne_6_0, ne_m1_0, ne_m2_0, b01_01, b01_n, lt_m2, lt_m1, le_m2, le_m1, Classical.not_not, Bool.or_false, Bool.false_or, Bool.true_or, Bool.or_true, j_Mod_firstMeeting_0, b_Mod_firstMeeting_0, j_Mod_firstMeeting_20, b_Mod_firstMeeting_20, an_0, an_1, ne_0_1, ne_1_0, sh_44]
  refine c_Mod_setWhy hn6 (by rw [gd47]; exact hn) (by rw [gd_14]; exact h01) ?_
  rw [sw_gd]
  simp only [cp_kk, cp_vc, cp_vs, cp_jm, cp_ent_en, cp_en_int, cp_en_ref, cp_en_ret, cp_en_long, cp_en_nil, cp_s1_at, cp_s2_at, cp_nl_int, cp_nl_ref, cp_nl_long, cp_nl_none, cp_pop_0, cp_pop_s, reduceIte, if_true, if_false, Bool.false_eq_true, Bool.true_eq_false, false_implies, implies_true, forall_const, true_implies, true_and, and_true, and_self, true_or, or_true, false_or, or_false, Value.category, List.length_cons, List.length_nil, Option.toList_some, Option.toList_none, List.cons_append, List.nil_append, List.append_nil, Prod.mk.injEq, Nat.add_zero, Nat.zero_add, Nat.reduceAdd, Nat.reduceSub, Nat.reduceEqDiff, Nat.reduceLeDiff, Nat.reduceLT, Nat.le_refl, beq_self_eq_true, Nat.reduceBEq, ne_eq, not_true_eq_false, not_false_eq_true, Int32.reduceAdd, Int32.reduceSub, Int32.reduceMul, Int32.reduceLE, Int32.reduceLT, Int32.reduceToNatClampNeg, b01_0, b01_1, ne_2_0, ne_3_0, ne_4_0, ne_5_0, ne_6_0, ne_m1_0, ne_m2_0, b01_01, b01_n, lt_m2, lt_m1, le_m2, le_m1, Classical.not_not, Bool.or_false, Bool.false_or, Bool.true_or, Bool.or_true, j_Mod_firstMeeting_0, b_Mod_firstMeeting_0, j_Mod_firstMeeting_20, b_Mod_firstMeeting_20, an_0, an_1, ne_0_1, ne_1_0, sh_44]
  refine ⟨fun c => ?_, fun c => ?_⟩
  · obtain ⟨-, s, -, hs, rfl⟩ := sw_0 hn6 c
    refine c_Mod_fewestOf hn6 (by rw [gd47]; exact hn) hs (symR_gd hsym) ?_
    rw [rfK_gd, rfP_gd]
    simp only [cp_kk, cp_vc, cp_vs, cp_jm, cp_ent_en, cp_en_int, cp_en_ref, cp_en_ret, cp_en_long, cp_en_nil, cp_s1_at, cp_s2_at, cp_nl_int, cp_nl_ref, cp_nl_long, cp_nl_none, cp_pop_0, cp_pop_s, reduceIte, if_true, if_false, Bool.false_eq_true, Bool.true_eq_false, false_implies, implies_true, forall_const, true_implies, true_and, and_true, and_self, true_or, or_true, false_or, or_false, Value.category, List.length_cons, List.length_nil, Option.toList_some, Option.toList_none, List.cons_append, List.nil_append, List.append_nil, Prod.mk.injEq, Nat.add_zero, Nat.zero_add, Nat.reduceAdd, Nat.reduceSub, Nat.reduceEqDiff, Nat.reduceLeDiff, Nat.reduceLT, Nat.le_refl, beq_self_eq_true, Nat.reduceBEq, ne_eq, not_true_eq_false, not_false_eq_true, Int32.reduceAdd, Int32.reduceSub, Int32.reduceMul, Int32.reduceLE, Int32.reduceLT, Int32.reduceToNatClampNeg, b01_0, b01_1, ne_2_0, ne_3_0, ne_4_0, ne_5_0, ne_6_0, ne_m1_0, ne_m2_0, b01_01, b01_n, lt_m2, lt_m1, le_m2, le_m1, Classical.not_not, Bool.or_false, Bool.false_or, Bool.true_or, Bool.or_true, j_Mod_firstMeeting_0, b_Mod_firstMeeting_0, j_Mod_firstMeeting_20, b_Mod_firstMeeting_20, an_0, an_1, ne_0_1, ne_1_0, sh_44, rfM_44]
    exact h1 s c hs rfl
  · refine c_Mod_no ?_
    simp only [cp_kk, cp_vc, cp_vs, cp_jm, cp_ent_en, cp_en_int, cp_en_ref, cp_en_ret, cp_en_long, cp_en_nil, cp_s1_at, cp_s2_at, cp_nl_int, cp_nl_ref, cp_nl_long, cp_nl_none, cp_pop_0, cp_pop_s, reduceIte, if_true, if_false, Bool.false_eq_true, Bool.true_eq_false, false_implies, implies_true, forall_const, true_implies, true_and, and_true, and_self, true_or, or_true, false_or, or_false, Value.category, List.length_cons, List.length_nil, Option.toList_some, Option.toList_none, List.cons_append, List.nil_append, List.append_nil, Prod.mk.injEq, Nat.add_zero, Nat.zero_add, Nat.reduceAdd, Nat.reduceSub, Nat.reduceEqDiff, Nat.reduceLeDiff, Nat.reduceLT, Nat.le_refl, beq_self_eq_true, Nat.reduceBEq, ne_eq, not_true_eq_false, not_false_eq_true, Int32.reduceAdd, Int32.reduceSub, Int32.reduceMul, Int32.reduceLE, Int32.reduceLT, Int32.reduceToNatClampNeg, b01_0, b01_1, ne_2_0, ne_3_0, ne_4_0, ne_5_0, ne_6_0, ne_m1_0, ne_m2_0, b01_01, b01_n, lt_m2, lt_m1, le_m2, le_m1, Classical.not_not, Bool.or_false, Bool.false_or, Bool.true_or, Bool.or_true, j_Mod_firstMeeting_0, b_Mod_firstMeeting_0, j_Mod_firstMeeting_20, b_Mod_firstMeeting_20, an_0, an_1, ne_0_1, ne_1_0, sh_44]
    exact h0 c
end Mod19
