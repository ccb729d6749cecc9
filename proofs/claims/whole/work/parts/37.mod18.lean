section Mod18
variable {g : cp_G} {d : Nat} {sh : cp_H} {I : cp_I} {J : cp_J} {P : cp_P} {Q : cp_QT} {t u r x : Nat}
/-! the fewest baths -/
def updN (f : Nat → Nat) (k v : Nat) : Nat → Nat := fun j => if j = k then v else f j
abbrev tbT : Type := Nat × (Nat → Int32) × (Nat → Int32)
def tbm (I : cp_I) (q : tbT) (mm : Nat → Nat) : cp_I := fun a j => if a = 44 ∧ j = 27 then nI q.1 else if a = 53 then q.2.1 j else if a = 54 then q.2.2 j else if a = 55 then nI (mm j) else I a j
def cp6 (B Z : Nat → Int32) : Nat → Int32 := fun j => if j < 6 then B j else Z j
def sp_bt (S : Nat → Bool) : Nat → Nat → Nat → (Nat → Nat) → tbT → tbT
  | 0, _, many, mm, q => if q.1 ≤ many then q else if fo (fun k z => z && S (mm k)) many 0 true = true then (many, q.2.1, cp6 q.2.1 q.2.2) else q
  | f + 1, b, many, mm, q => if q.1 ≤ many then q else fo (fun k q => sp_bt S f (b + 1) (if k = many then many + 1 else many) (updN mm k (mm k ||| 2 ^ b)) (q.1, upd q.2.1 b (nI k), q.2.2)) (many + 1) 0 q
theorem fo_le {α : Type} (w : α → Nat) (f : Nat → α → α) (h : ∀ k a, w (f k a) ≤ w a) : ∀ (m k : Nat) (a : α), w (fo f m k a) ≤ w a
  | 0, _, _ => Nat.le_refl _
  | m + 1, k, a => Nat.le_trans (fo_le w f h m (k + 1) (f k a)) (h k a)
theorem sp_bt_le (S : Nat → Bool) : ∀ (f b many : Nat) (mm : Nat → Nat) (q : tbT), (sp_bt S f b many mm q).1 ≤ q.1
  | 0, b, many, mm, q => by
    unfold sp_bt
    split
    · exact Nat.le_refl _
    · split
      · simp only
        omega
      · exact Nat.le_refl _
  | f + 1, b, many, mm, q => by
    unfold sp_bt
    split
    · exact Nat.le_refl _
    · exact fo_le (fun q : tbT => q.1) _ (fun k a => sp_bt_le S f (b + 1) _ _ (a.1, upd a.2.1 b (nI k), a.2.2)) _ _ _
theorem tbm44 (I : cp_I) (q : tbT) (mm : Nat → Nat) : tbm I q mm 44 27 = nI q.1 := by simp [tbm]
theorem tbm47 (I : cp_I) (q : tbT) (mm : Nat → Nat) (j : Nat) : tbm I q mm 47 j = I 47 j := by simp [tbm]
theorem tbm49 (I : cp_I) (q : tbT) (mm : Nat → Nat) (j : Nat) : tbm I q mm 49 j = I 49 j := by simp [tbm]
theorem tbm54 (I : cp_I) (q : tbT) (mm : Nat → Nat) (j : Nat) : tbm I q mm 54 j = q.2.2 j := by simp [tbm]
theorem tbm55 (I : cp_I) (q : tbT) (mm : Nat → Nat) (j : Nat) : tbm I q mm 55 j = nI (mm j) := by simp [tbm]
theorem tbm_F (I : cp_I) (q : tbT) (mm : Nat → Nat) (v : Nat) : cp_u (tbm I q mm) 44 27 (nI v) = tbm I (v, q.2.1, q.2.2) mm := by
  funext a j
  by_cases h : a = 44 ∧ j = 27 <;> simp [tbm, cp_u, h]
theorem tbm_B (I : cp_I) (q : tbT) (mm : Nat → Nat) (k : Nat) (v : Int32) : cp_u (tbm I q mm) 53 k v = tbm I (q.1, upd q.2.1 k v, q.2.2) mm := by
  funext a j
  by_cases h : a = 53
  · subst h
    by_cases h2 : j = k <;> simp [tbm, cp_u, upd, h2]
  · simp [tbm, cp_u, h]
theorem tbm_M (I : cp_I) (q : tbT) (mm : Nat → Nat) (k v : Nat) : cp_u (tbm I q mm) 55 k (nI v) = tbm I q (updN mm k v) := by
  funext a j
  by_cases h : a = 55
  · subst h
    by_cases h2 : j = k <;> simp [tbm, cp_u, updN, h2]
  · simp [tbm, cp_u, h]
theorem tbm_C (I : cp_I) (q : tbT) (mm : Nat → Nat) : cpy (tbm I q mm) 53 0 54 0 6 = tbm I (q.1, q.2.1, cp6 q.2.1 q.2.2) mm := by
  funext a j
  by_cases h : a = 54
  · subst h
    by_cases h2 : j < 6 <;> simp [tbm, cpy, cp6, h2]
  · simp [tbm, cpy, h]
theorem updN_self (mm : Nat → Nat) (k v w : Nat) (h : w = mm k) : updN (updN mm k v) k w = mm := by
  funext j
  by_cases hj : j = k
  · subst hj
    simp [updN, h]
  · simp [updN, hj]
theorem updN_k (mm : Nat → Nat) (k v : Nat) : updN mm k v k = v := by simp [updN]
theorem xo {m b : Nat} (hb : b < 6) (h : m < 2 ^ b) : (m ||| 2 ^ b) ^^^ 2 ^ b = m := by
  have key : ∀ b : Nat, b < 6 → ∀ m : Nat, m < 2 ^ b → (m ||| 2 ^ b) ^^^ 2 ^ b = m := by decide +kernel
  exact key b hb m h
theorem or_lt {m b : Nat} (h : m < 2 ^ b) : m ||| 2 ^ b < 2 ^ (b + 1) := Nat.or_lt_two_pow (Nat.lt_of_lt_of_le h (Nat.pow_le_pow_right (by omega) (by omega))) (Nat.pow_lt_pow_right (by omega) (by omega))
set_option maxRecDepth 20000 in
theorem c_Mod_tryBaths {n : Nat} (hn6 : n ≤ 6) (hn : I 47 4 = nI n) : ∀ (f D b many : Nat) (mm : Nat → Nat) (q : tbT) (Q : cp_QT), D = d + f → b + f = n → many ≤ b → (∀ k, mm k < 2 ^ b) → q.1 ≤ 1000000 →
    Q none SH (tbm I (sp_bt (rs I n 49) f b many mm q) mm) J (PP t u r x) →
    MW g false (D + 6) 0 0 m_Mod_tryBaths [.ref 44, .int (nI b), .int (nI many)] SH (tbm I q mm) J (PP t u r x) Q := by
  intro f
  induction f with
  | zero =>
    intro D b many mm q Q hD hb hm hmm hq h
    obtain rfl : b = n := by omega
    unfold sp_bt at h
    refine MW.of ok_Mod_tryBaths (Nat.le_of_ble_eq_true rfl) ?_
    refine cp_run 30 (fun t => t == 24) ck_Mod_tryBaths ?_
    simp only [cp_vc, cp_vs, cp_jm, cp_ent_en, cp_en_int, cp_en_ref, cp_en_ret, cp_en_long, cp_en_nil, cp_s1_at, cp_s2_at, cp_nl_int, cp_nl_ref, cp_nl_long, cp_nl_none, cp_pop_0, cp_pop_s, reduceIte, if_true, if_false, Bool.false_eq_true, Bool.true_eq_false, false_implies, implies_true, forall_const, true_implies, true_and, and_true, and_self, true_or, or_true, false_or, or_false, Value.category, List.length_cons, List.length_nil, Option.toList_some, Option.toList_none, List.cons_append, List.nil_append, List.append_nil, Prod.mk.injEq, Nat.add_zero, Nat.zero_add, Nat.reduceAdd, Nat.reduceSub, Nat.reduceEqDiff, Nat.reduceLeDiff, Nat.reduceLT, Nat.le_refl, beq_self_eq_true, Nat.reduceBEq, ne_eq, not_true_eq_false, not_false_eq_true, Int32.reduceAdd, Int32.reduceSub, Int32.reduceMul, Int32.reduceLE, Int32.reduceLT, Int32.reduceToNatClampNeg, b01_0, b01_1, ne_2_0, ne_3_0, ne_4_0, ne_5_0, ne_6_0, ne_m1_0, ne_m2_0, b01_01, b01_n, lt_m2, lt_m1, le_m2, le_m1, Classical.not_not, j_Mod_tryBaths_0, b_Mod_tryBaths_0, j_Mod_tryBaths_9, b_Mod_tryBaths_9, j_Mod_tryBaths_24, b_Mod_tryBaths_24, j_Mod_tryBaths_56, b_Mod_tryBaths_56, j_Mod_tryBaths_57, b_Mod_tryBaths_57, j_Mod_tryBaths_64, b_Mod_tryBaths_64, j_Mod_tryBaths_69, b_Mod_tryBaths_69, j_Mod_tryBaths_90, b_Mod_tryBaths_90, j_Mod_tryBaths_92, b_Mod_tryBaths_92, j_Mod_tryBaths_131, b_Mod_tryBaths_131, j_Mod_tryBaths_132, b_Mod_tryBaths_132, j_Mod_tryBaths_153, b_Mod_tryBaths_153, an_0, an_1, an_4, an_6, cl_0, cl_1, cl_4, cl_6, ne_0_1, ne_0_4, ne_0_6, ne_1_0, ne_1_4, ne_1_6, ne_4_0, ne_4_1, ne_4_6, ne_6_0, ne_6_1, ne_6_4, pp_44_15, pp_44_17, pp_44_24, pp_44_25, pp_44_26, sh_44, sh_47, sh_49, sh_53, sh_54, sh_55, vi_0, vi_1, vi_4, vi_6, tbm44, tbm47, hn]
    refine ⟨fun c => ?_, fun c => ?_⟩
    · have c1 : ¬ q.1 ≤ many := by
        intro z
        exact nI_nlt z (by omega) c
      rw [if_neg c1] at h
      have inner : ∀ (m k : Nat) (z : Bool) (L : cp_Lo), k + m = many → L 0 = some (.ref 44) → L 2 = some (.int (nI many)) → L 3 = some (.int (if z = true then 1 else 0)) → L 4 = some (.int (nI k)) →
          Q none SH (tbm I (if fo (fun k z => z && rs I b 49 (mm k)) m k z = true then (many, q.2.1, cp6 q.2.1 q.2.2) else q) mm) J (PP t u r x) →
          RW g false (D + 6) 0 0 m_Mod_tryBaths 0 0 24 L [] SH (tbm I q mm) J (PP t u r x) Q := by
        intro m
        induction m with
        | zero =>
          intro k z L hk l0 l2 l3 l4 h
          have c2 : nI many ≤ nI k := nI_le (by omega) (by omega)
          refine cp_run 60 (fun t => t == 24) ck_Mod_tryBaths ?_
          simp only [cp_vc, cp_vs, cp_jm, cp_ent_en, cp_en_int, cp_en_ref, cp_en_ret, cp_en_long, cp_en_nil, cp_s1_at, cp_s2_at, cp_nl_int, cp_nl_ref, cp_nl_long, cp_nl_none, cp_pop_0, cp_pop_s, reduceIte, if_true, if_false, Bool.false_eq_true, Bool.true_eq_false, false_implies, implies_true, forall_const, true_implies, true_and, and_true, and_self, true_or, or_true, false_or, or_false, Value.category, List.length_cons, List.length_nil, Option.toList_some, Option.toList_none, List.cons_append, List.nil_append, List.append_nil, Prod.mk.injEq, Nat.add_zero, Nat.zero_add, Nat.reduceAdd, Nat.reduceSub, Nat.reduceEqDiff, Nat.reduceLeDiff, Nat.reduceLT, Nat.le_refl, beq_self_eq_true, Nat.reduceBEq, ne_eq, not_true_eq_false, not_false_eq_true, Int32.reduceAdd, Int32.reduceSub, Int32.reduceMul, Int32.reduceLE, Int32.reduceLT, Int32.reduceToNatClampNeg, b01_0, b01_1, ne_2_0, ne_3_0, ne_4_0, ne_5_0, ne_6_0, ne_m1_0, ne_m2_0, b01_01, b01_n, lt_m2, lt_m1, le_m2, le_m1, Classical.not_not, j_Mod_tryBaths_0, b_Mod_tryBaths_0, j_Mod_tryBaths_9, b_Mod_tryBaths_9, j_Mod_tryBaths_24, b_Mod_tryBaths_24, j_Mod_tryBaths_56, b_Mod_tryBaths_56, j_Mod_tryBaths_57, b_Mod_tryBaths_57, j_Mod_tryBaths_64, b_Mod_tryBaths_64, j_Mod_tryBaths_69, b_Mod_tryBaths_69, j_Mod_tryBaths_90, b_Mod_tryBaths_90, j_Mod_tryBaths_92, b_Mod_tryBaths_92, j_Mod_tryBaths_131, b_Mod_tryBaths_131, j_Mod_tryBaths_132, b_Mod_tryBaths_132, j_Mod_tryBaths_153, b_Mod_tryBaths_153, an_0, an_1, an_4, an_6, cl_0, cl_1, cl_4, cl_6, ne_0_1, ne_0_4, ne_0_6, ne_1_0, ne_1_4, ne_1_6, ne_4_0, ne_4_1, ne_4_6, ne_6_0, ne_6_1, ne_6_4, pp_44_15, pp_44_17, pp_44_24, pp_44_25, pp_44_26, sh_44, sh_47, sh_49, sh_53, sh_54, sh_55, vi_0, vi_1, vi_4, vi_6, l0, l2, l3, l4, c2]
          have h : Q none SH (tbm I (if z = true then (many, q.2.1, cp6 q.2.1 q.2.2) else q) mm) J (PP t u r x) := h
          refine ⟨fun c3 => ?_, fun c3 => ?_⟩
          · rw [if_pos c3] at h
            rw [tbm_F]
            refine c_Mod_copy (f := 53) (a := 0) (e := 54) (i := 0) (n := 6) sh_53 sh_54 (by omega) (by omega) (by omega) (by omega) (by omega) ?_
            rw [tbm_C]
            simp only [cp_kk, cp_vc, cp_vs, cp_jm, cp_ent_en, cp_en_int, cp_en_ref, cp_en_ret, cp_en_long, cp_en_nil, cp_s1_at, cp_s2_at, cp_nl_int, cp_nl_ref, cp_nl_long, cp_nl_none, cp_pop_0, cp_pop_s, reduceIte, if_true, if_false, Bool.false_eq_true, Bool.true_eq_false, false_implies, implies_true, forall_const, true_implies, true_and, and_true, and_self, true_or, or_true, false_or, or_false, Value.category, List.length_cons, List.length_nil, Option.toList_some, Option.toList_none, List.cons_append, List.nil_append, List.append_nil, Prod.mk.injEq, Nat.add_zero, Nat.zero_add, Nat.reduceAdd, Nat.reduceSub, Nat.reduceEqDiff, Nat.reduceLeDiff, Nat.reduceLT, Nat.le_refl, beq_self_eq_true, Nat.reduceBEq, ne_eq, not_true_eq_false, not_false_eq_true, Int32.reduceAdd, Int32.reduceSub, Int32.reduceMul, Int32.reduceLE, Int32.reduceLT, Int32.reduceToNatClampNeg, b01_0, b01_1, ne_2_0, ne_3_0, ne_4_0, ne_5_0, ne_6_0, ne_m1_0, ne_m2_0, b01_01, b01_n, lt_m2, lt_m1, le_m2, le_m1, Classical.not_not, Bool.or_false, Bool.false_or, Bool.true_or, Bool.or_true, j_Mod_tryBaths_0, b_Mod_tryBaths_0, j_Mod_tryBaths_9, b_Mod_tryBaths_9, j_Mod_tryBaths_24, b_Mod_tryBaths_24, j_Mod_tryBaths_56, b_Mod_tryBaths_56, j_Mod_tryBaths_57, b_Mod_tryBaths_57, j_Mod_tryBaths_64, b_Mod_tryBaths_64, j_Mod_tryBaths_69, b_Mod_tryBaths_69, j_Mod_tryBaths_90, b_Mod_tryBaths_90, j_Mod_tryBaths_92, b_Mod_tryBaths_92, j_Mod_tryBaths_131, b_Mod_tryBaths_131, j_Mod_tryBaths_132, b_Mod_tryBaths_132, j_Mod_tryBaths_153, b_Mod_tryBaths_153, an_0, an_1, an_4, an_6, cl_0, cl_1, cl_4, cl_6, ne_0_1, ne_0_4, ne_0_6, ne_1_0, ne_1_4, ne_1_6, ne_4_0, ne_4_1, ne_4_6, ne_6_0, ne_6_1, ne_6_4, pp_44_15, pp_44_17, pp_44_24, pp_44_25, pp_44_26, sh_44, sh_47, sh_49, sh_53, sh_54, sh_55, vi_0, vi_1, vi_4, vi_6]
            exact h
          · rw [if_neg c3] at h
            exact h
        | succ m ih =>
          intro k z L hk l0 l2 l3 l4 h
          have c2 : ¬ nI many ≤ nI k := nI_ge (by omega) (by omega)
          rw [fo] at h
          have hmk : mm k < 64 := Nat.lt_of_lt_of_le (hmm k) (Nat.pow_le_pow_right (n := 2) (by omega) hn6)
          refine cp_run 60 (fun t => t == 24) ck_Mod_tryBaths ?_
          simp only [cp_vc, cp_vs, cp_jm, cp_ent_en, cp_en_int, cp_en_ref, cp_en_ret, cp_en_long, cp_en_nil, cp_s1_at, cp_s2_at, cp_nl_int, cp_nl_ref, cp_nl_long, cp_nl_none, cp_pop_0, cp_pop_s, reduceIte, if_true, if_false, Bool.false_eq_true, Bool.true_eq_false, false_implies, implies_true, forall_const, true_implies, true_and, and_true, and_self, true_or, or_true, false_or, or_false, Value.category, List.length_cons, List.length_nil, Option.toList_some, Option.toList_none, List.cons_append, List.nil_append, List.append_nil, Prod.mk.injEq, Nat.add_zero, Nat.zero_add, Nat.reduceAdd, Nat.reduceSub, Nat.reduceEqDiff, Nat.reduceLeDiff, Nat.reduceLT, Nat.le_refl, beq_self_eq_true, Nat.reduceBEq, ne_eq, not_true_eq_false, not_false_eq_true, Int32.reduceAdd, Int32.reduceSub, Int32.reduceMul, Int32.reduceLE, Int32.reduceLT, Int32.reduceToNatClampNeg, b01_0, b01_1, ne_2_0, ne_3_0, ne_4_0, ne_5_0, ne_6_0, ne_m1_0, ne_m2_0, b01_01, b01_n, lt_m2, lt_m1, le_m2, le_m1, Classical.not_not, j_Mod_tryBaths_0, b_Mod_tryBaths_0, j_Mod_tryBaths_9, b_Mod_tryBaths_9, j_Mod_tryBaths_24, b_Mod_tryBaths_24, j_Mod_tryBaths_56, b_Mod_tryBaths_56, j_Mod_tryBaths_57, b_Mod_tryBaths_57, j_Mod_tryBaths_64, b_Mod_tryBaths_64, j_Mod_tryBaths_69, b_Mod_tryBaths_69, j_Mod_tryBaths_90, b_Mod_tryBaths_90, j_Mod_tryBaths_92, b_Mod_tryBaths_92, j_Mod_tryBaths_131, b_Mod_tryBaths_131, j_Mod_tryBaths_132, b_Mod_tryBaths_132, j_Mod_tryBaths_153, b_Mod_tryBaths_153, an_0, an_1, an_4, an_6, cl_0, cl_1, cl_4, cl_6, ne_0_1, ne_0_4, ne_0_6, ne_1_0, ne_1_4, ne_1_6, ne_4_0, ne_4_1, ne_4_6, ne_6_0, ne_6_1, ne_6_4, pp_44_15, pp_44_17, pp_44_24, pp_44_25, pp_44_26, sh_44, sh_47, sh_49, sh_53, sh_54, sh_55, vi_0, vi_1, vi_4, vi_6, l0, l2, l3, l4, c2, tbm55, vin (show k < 6 by omega) (by omega), ncl (show k < 1000 by omega)]
          refine ⟨fun c3 => ?_, fun c3 => ?_⟩
          · refine ih (k + 1) false _ (by omega) ?_ ?_ ?_ ?_ ?_
            case refine_5 => simpa [c3] using h
            all_goals simp [cp_s1_at, cp_nl_int, cp_nl_ref, l0, l2, nI_1]
          · refine c_Mod_isSnug (I := tbm I q mm) sh_49 hmk hn6 ((tbm47 I q mm 4).trans hn) ?_
            rw [rs_c (tbm47 I q mm) (tbm49 I q mm)]
            simp only [cp_kk, cp_vc, cp_vs, cp_jm, cp_ent_en, cp_en_int, cp_en_ref, cp_en_ret, cp_en_long, cp_en_nil, cp_s1_at, cp_s2_at, cp_nl_int, cp_nl_ref, cp_nl_long, cp_nl_none, cp_pop_0, cp_pop_s, reduceIte, if_true, if_false, Bool.false_eq_true, Bool.true_eq_false, false_implies, implies_true, forall_const, true_implies, true_and, and_true, and_self, true_or, or_true, false_or, or_false, Value.category, List.length_cons, List.length_nil, Option.toList_some, Option.toList_none, List.cons_append, List.nil_append, List.append_nil, Prod.mk.injEq, Nat.add_zero, Nat.zero_add, Nat.reduceAdd, Nat.reduceSub, Nat.reduceEqDiff, Nat.reduceLeDiff, Nat.reduceLT, Nat.le_refl, beq_self_eq_true, Nat.reduceBEq, ne_eq, not_true_eq_false, not_false_eq_true, Int32.reduceAdd, Int32.reduceSub, Int32.reduceMul, Int32.reduceLE, Int32.reduceLT, Int32.reduceToNatClampNeg, b01_0, b01_1, ne_2_0, ne_3_0, ne_4_0, ne_5_0, ne_6_0, ne_m1_0, ne_m2_0, b01_01, b01_n, lt_m2, lt_m1, le_m2, le_m1, Classical.not_not, Bool.or_false, Bool.false_or, Bool.true_or, Bool.or_true, j_Mod_tryBaths_0, b_Mod_tryBaths_0, j_Mod_tryBaths_9, b_Mod_tryBaths_9, j_Mod_tryBaths_24, b_Mod_tryBaths_24, j_Mod_tryBaths_56, b_Mod_tryBaths_56, j_Mod_tryBaths_57, b_Mod_tryBaths_57, j_Mod_tryBaths_64, b_Mod_tryBaths_64, j_Mod_tryBaths_69, b_Mod_tryBaths_69, j_Mod_tryBaths_90, b_Mod_tryBaths_90, j_Mod_tryBaths_92, b_Mod_tryBaths_92, j_Mod_tryBaths_131, b_Mod_tryBaths_131, j_Mod_tryBaths_132, b_Mod_tryBaths_132, j_Mod_tryBaths_153, b_Mod_tryBaths_153, an_0, an_1, an_4, an_6, cl_0, cl_1, cl_4, cl_6, ne_0_1, ne_0_4, ne_0_6, ne_1_0, ne_1_4, ne_1_6, ne_4_0, ne_4_1, ne_4_6, ne_6_0, ne_6_1, ne_6_4, pp_44_15, pp_44_17, pp_44_24, pp_44_25, pp_44_26, sh_44, sh_47, sh_49, sh_53, sh_54, sh_55, vi_0, vi_1, vi_4, vi_6, l0, l2, l3, l4, nI_1]
            refine ⟨fun c4 => ih (k + 1) false _ (by omega) ?_ ?_ ?_ ?_ (by simpa [c3, c4] using h), fun c4 => ih (k + 1) true _ (by omega) ?_ ?_ ?_ ?_ (by simpa [c3, c4] using h)⟩ <;> simp [cp_s1_at, cp_nl_int, cp_nl_ref, l0, l2]
      refine inner many 0 true _ (by omega) ?_ ?_ ?_ ?_ h <;> simp [cp_s1_at, cp_ent_en, cp_en_int, cp_en_ref, cp_nl_int, cp_nl_ref, nI_0]
    · have c1 : q.1 ≤ many := by
        exact Nat.le_of_not_lt (fun z => c (nI_lt z (by omega)))
      rw [if_pos c1] at h
      exact h
  | succ f ih =>
    intro D b many mm q Q hD hb hm hmm hq h
    obtain ⟨D, rfl⟩ : ∃ D', D = D' + 1 := ⟨d + f, by omega⟩
    unfold sp_bt at h
    have hbn : ¬ b = n := by omega
    refine MW.of ok_Mod_tryBaths (Nat.le_of_ble_eq_true rfl) ?_
    refine cp_run 30 (fun t => t == 92) ck_Mod_tryBaths ?_
    simp only [cp_vc, cp_vs, cp_jm, cp_ent_en, cp_en_int, cp_en_ref, cp_en_ret, cp_en_long, cp_en_nil, cp_s1_at, cp_s2_at, cp_nl_int, cp_nl_ref, cp_nl_long, cp_nl_none, cp_pop_0, cp_pop_s, reduceIte, if_true, if_false, Bool.false_eq_true, Bool.true_eq_false, false_implies, implies_true, forall_const, true_implies, true_and, and_true, and_self, true_or, or_true, false_or, or_false, Value.category, List.length_cons, List.length_nil, Option.toList_some, Option.toList_none, List.cons_append, List.nil_append, List.append_nil, Prod.mk.injEq, Nat.add_zero, Nat.zero_add, Nat.reduceAdd, Nat.reduceSub, Nat.reduceEqDiff, Nat.reduceLeDiff, Nat.reduceLT, Nat.le_refl, beq_self_eq_true, Nat.reduceBEq, ne_eq, not_true_eq_false, not_false_eq_true, Int32.reduceAdd, Int32.reduceSub, Int32.reduceMul, Int32.reduceLE, Int32.reduceLT, Int32.reduceToNatClampNeg, b01_0, b01_1, ne_2_0, ne_3_0, ne_4_0, ne_5_0, ne_6_0, ne_m1_0, ne_m2_0, b01_01, b01_n, lt_m2, lt_m1, le_m2, le_m1, Classical.not_not, j_Mod_tryBaths_0, b_Mod_tryBaths_0, j_Mod_tryBaths_9, b_Mod_tryBaths_9, j_Mod_tryBaths_24, b_Mod_tryBaths_24, j_Mod_tryBaths_56, b_Mod_tryBaths_56, j_Mod_tryBaths_57, b_Mod_tryBaths_57, j_Mod_tryBaths_64, b_Mod_tryBaths_64, j_Mod_tryBaths_69, b_Mod_tryBaths_69, j_Mod_tryBaths_90, b_Mod_tryBaths_90, j_Mod_tryBaths_92, b_Mod_tryBaths_92, j_Mod_tryBaths_131, b_Mod_tryBaths_131, j_Mod_tryBaths_132, b_Mod_tryBaths_132, j_Mod_tryBaths_153, b_Mod_tryBaths_153, an_0, an_1, an_4, an_6, cl_0, cl_1, cl_4, cl_6, ne_0_1, ne_0_4, ne_0_6, ne_1_0, ne_1_4, ne_1_6, ne_4_0, ne_4_1, ne_4_6, ne_6_0, ne_6_1, ne_6_4, pp_44_15, pp_44_17, pp_44_24, pp_44_25, pp_44_26, sh_44, sh_47, sh_49, sh_53, sh_54, sh_55, vi_0, vi_1, vi_4, vi_6, tbm44, tbm47, hn, eqN (show b < 1000 by omega) (show n < 1000 by omega), hbn]
    refine ⟨fun c => ?_, fun c => ?_⟩
    · have c1 : ¬ q.1 ≤ many := by
        intro z
        exact nI_nlt z (by omega) c
      rw [if_neg c1] at h
      have inner : ∀ (m k : Nat) (q : tbT) (L : cp_Lo), k + m = many + 1 → q.1 ≤ 1000000 → L 0 = some (.ref 44) → L 1 = some (.int (nI b)) → L 2 = some (.int (nI many)) → L 3 = some (.int (nI k)) →
          Q none SH (tbm I (fo (fun k q => sp_bt (rs I n 49) f (b + 1) (if k = many then many + 1 else many) (updN mm k (mm k ||| 2 ^ b)) (q.1, upd q.2.1 b (nI k), q.2.2)) m k q) mm) J (PP t u r x) →
          RW g false (D + 1 + 6) 0 0 m_Mod_tryBaths 0 0 92 L [] SH (tbm I q mm) J (PP t u r x) Q := by
        intro m
        induction m with
        | zero =>
          intro k q L hk hq l0 l1 l2 l3 h
          have c2 : nI many < nI k := nI_lt (by omega) (by omega)
          refine cp_run 60 (fun t => t == 92) ck_Mod_tryBaths ?_
          simp only [cp_vc, cp_vs, cp_jm, cp_ent_en, cp_en_int, cp_en_ref, cp_en_ret, cp_en_long, cp_en_nil, cp_s1_at, cp_s2_at, cp_nl_int, cp_nl_ref, cp_nl_long, cp_nl_none, cp_pop_0, cp_pop_s, reduceIte, if_true, if_false, Bool.false_eq_true, Bool.true_eq_false, false_implies, implies_true, forall_const, true_implies, true_and, and_true, and_self, true_or, or_true, false_or, or_false, Value.category, List.length_cons, List.length_nil, Option.toList_some, Option.toList_none, List.cons_append, List.nil_append, List.append_nil, Prod.mk.injEq, Nat.add_zero, Nat.zero_add, Nat.reduceAdd, Nat.reduceSub, Nat.reduceEqDiff, Nat.reduceLeDiff, Nat.reduceLT, Nat.le_refl, beq_self_eq_true, Nat.reduceBEq, ne_eq, not_true_eq_false, not_false_eq_true, Int32.reduceAdd, Int32.reduceSub, Int32.reduceMul, Int32.reduceLE, Int32.reduceLT, Int32.reduceToNatClampNeg, b01_0, b01_1, ne_2_0, ne_3_0, ne_4_0, ne_5_0, ne_6_0, ne_m1_0, ne_m2_0, b01_01, b01_n, lt_m2, lt_m1, le_m2, le_m1, Classical.not_not, j_Mod_tryBaths_0, b_Mod_tryBaths_0, j_Mod_tryBaths_9, b_Mod_tryBaths_9, j_Mod_tryBaths_24, b_Mod_tryBaths_24, j_Mod_tryBaths_56, b_Mod_tryBaths_56, j_Mod_tryBaths_57, b_Mod_tryBaths_57, j_Mod_tryBaths_64, b_Mod_tryBaths_64, j_Mod_tryBaths_69, b_Mod_tryBaths_69, j_Mod_tryBaths_90, b_Mod_tryBaths_90, j_Mod_tryBaths_92, b_Mod_tryBaths_92, j_Mod_tryBaths_131, b_Mod_tryBaths_131, j_Mod_tryBaths_132, b_Mod_tryBaths_132, j_Mod_tryBaths_153, b_Mod_tryBaths_153, an_0, an_1, an_4, an_6, cl_0, cl_1, cl_4, cl_6, ne_0_1, ne_0_4, ne_0_6, ne_1_0, ne_1_4, ne_1_6, ne_4_0, ne_4_1, ne_4_6, ne_6_0, ne_6_1, ne_6_4, pp_44_15, pp_44_17, pp_44_24, pp_44_25, pp_44_26, sh_44, sh_47, sh_49, sh_53, sh_54, sh_55, vi_0, vi_1, vi_4, vi_6, l0, l1, l2, l3, c2]
          exact h
        | succ m ihm =>
          intro k q L hk hq l0 l1 l2 l3 h
          have c2 : ¬ nI many < nI k := nI_nlt (by omega) (by omega)
          rw [fo] at h
          have hb6 : b < 6 := by omega
          have hmk : mm k < 64 := Nat.lt_of_lt_of_le (hmm k) (show 2 ^ b ≤ 2 ^ 6 from Nat.pow_le_pow_right (by omega) (by omega))
          have hpb := pow_lt64 hb6
          have ho := or_lt64 hmk hpb
          have hmm2 : ∀ j, updN mm k (mm k ||| 2 ^ b) j < 2 ^ (b + 1) := by
            intro j
            have h1 : (2 : Nat) ^ b ≤ 2 ^ (b + 1) := Nat.pow_le_pow_right (by omega) (by omega)
            unfold updN
            split
            · exact or_lt (hmm k)
            · exact Nat.lt_of_lt_of_le (hmm j) h1
          refine cp_run 60 (fun t => t == 92) ck_Mod_tryBaths ?_
          simp only [cp_vc, cp_vs, cp_jm, cp_ent_en, cp_en_int, cp_en_ref, cp_en_ret, cp_en_long, cp_en_nil, cp_s1_at, cp_s2_at, cp_nl_int, cp_nl_ref, cp_nl_long, cp_nl_none, cp_pop_0, cp_pop_s, reduceIte, if_true, if_false, Bool.false_eq_true, Bool.true_eq_false, false_implies, implies_true, forall_const, true_implies, true_and, and_true, and_self, true_or, or_true, false_or, or_false, Value.category, List.length_cons, List.length_nil, Option.toList_some, Option.toList_none, List.cons_append, List.nil_append, List.append_nil, Prod.mk.injEq, Nat.add_zero, Nat.zero_add, Nat.reduceAdd, Nat.reduceSub, Nat.reduceEqDiff, Nat.reduceLeDiff, Nat.reduceLT, Nat.le_refl, beq_self_eq_true, Nat.reduceBEq, ne_eq, not_true_eq_false, not_false_eq_true, Int32.reduceAdd, Int32.reduceSub, Int32.reduceMul, Int32.reduceLE, Int32.reduceLT, Int32.reduceToNatClampNeg, b01_0, b01_1, ne_2_0, ne_3_0, ne_4_0, ne_5_0, ne_6_0, ne_m1_0, ne_m2_0, b01_01, b01_n, lt_m2, lt_m1, le_m2, le_m1, Classical.not_not, j_Mod_tryBaths_0, b_Mod_tryBaths_0, j_Mod_tryBaths_9, b_Mod_tryBaths_9, j_Mod_tryBaths_24, b_Mod_tryBaths_24, j_Mod_tryBaths_56, b_Mod_tryBaths_56, j_Mod_tryBaths_57, b_Mod_tryBaths_57, j_Mod_tryBaths_64, b_Mod_tryBaths_64, j_Mod_tryBaths_69, b_Mod_tryBaths_69, j_Mod_tryBaths_90, b_Mod_tryBaths_90, j_Mod_tryBaths_92, b_Mod_tryBaths_92, j_Mod_tryBaths_131, b_Mod_tryBaths_131, j_Mod_tryBaths_132, b_Mod_tryBaths_132, j_Mod_tryBaths_153, b_Mod_tryBaths_153, an_0, an_1, an_4, an_6, cl_0, cl_1, cl_4, cl_6, ne_0_1, ne_0_4, ne_0_6, ne_1_0, ne_1_4, ne_1_6, ne_4_0, ne_4_1, ne_4_6, ne_6_0, ne_6_1, ne_6_4, pp_44_15, pp_44_17, pp_44_24, pp_44_25, pp_44_26, sh_44, sh_47, sh_49, sh_53, sh_54, sh_55, vi_0, vi_1, vi_4, vi_6, l0, l1, l2, l3, c2, nI_1, tbm_B, tbm55, vin (show b < 6 by omega) (by omega), ncl (show b < 1000 by omega), vin (show k < 6 by omega) (by omega), ncl (show k < 1000 by omega), sh1 (show b < 8 by omega), or_nI hmk hpb, tbm_M, eqN (show k < 1000 by omega) (show many < 1000 by omega)]
          refine ⟨fun e => ?_, fun e => ?_⟩
          · refine ih D (b + 1) many (updN mm k (mm k ||| 2 ^ b)) (q.1, upd q.2.1 b (nI k), q.2.2) _ (by omega) (by omega) (by omega) hmm2 hq ?_
            simp only [cp_kk, cp_vc, cp_vs, cp_jm, cp_ent_en, cp_en_int, cp_en_ref, cp_en_ret, cp_en_long, cp_en_nil, cp_s1_at, cp_s2_at, cp_nl_int, cp_nl_ref, cp_nl_long, cp_nl_none, cp_pop_0, cp_pop_s, reduceIte, if_true, if_false, Bool.false_eq_true, Bool.true_eq_false, false_implies, implies_true, forall_const, true_implies, true_and, and_true, and_self, true_or, or_true, false_or, or_false, Value.category, List.length_cons, List.length_nil, Option.toList_some, Option.toList_none, List.cons_append, List.nil_append, List.append_nil, Prod.mk.injEq, Nat.add_zero, Nat.zero_add, Nat.reduceAdd, Nat.reduceSub, Nat.reduceEqDiff, Nat.reduceLeDiff, Nat.reduceLT, Nat.le_refl, beq_self_eq_true, Nat.reduceBEq, ne_eq, not_true_eq_false, not_false_eq_true, Int32.reduceAdd, Int32.reduceSub, Int32.reduceMul, Int32.reduceLE, Int32.reduceLT, Int32.reduceToNatClampNeg, b01_0, b01_1, ne_2_0, ne_3_0, ne_4_0, ne_5_0, ne_6_0, ne_m1_0, ne_m2_0, b01_01, b01_n, lt_m2, lt_m1, le_m2, le_m1, Classical.not_not, Bool.or_false, Bool.false_or, Bool.true_or, Bool.or_true, j_Mod_tryBaths_0, b_Mod_tryBaths_0, j_Mod_tryBaths_9, b_Mod_tryBaths_9, j_Mod_tryBaths_24, b_Mod_tryBaths_24, j_Mod_tryBaths_56, b_Mod_tryBaths_56, j_Mod_tryBaths_57, b_Mod_tryBaths_57, j_Mod_tryBaths_64, b_Mod_tryBaths_64, j_Mod_tryBaths_69, b_Mod_tryBaths_69, j_Mod_tryBaths_90, b_Mod_tryBaths_90, j_Mod_tryBaths_92, b_Mod_tryBaths_92, j_Mod_tryBaths_131, b_Mod_tryBaths_131, j_Mod_tryBaths_132, b_Mod_tryBaths_132, j_Mod_tryBaths_153, b_Mod_tryBaths_153, an_0, an_1, an_4, an_6, cl_0, cl_1, cl_4, cl_6, ne_0_1, ne_0_4, ne_0_6, ne_1_0, ne_1_4, ne_1_6, ne_4_0, ne_4_1, ne_4_6, ne_6_0, ne_6_1, ne_6_4, pp_44_15, pp_44_17, pp_44_24, pp_44_25, pp_44_26, sh_44, sh_47, sh_49, sh_53, sh_54, sh_55, vi_0, vi_1, vi_4, vi_6, l0, l1, l2, l3, nI_1, tbm55, updN_k, vin (show k < 6 by omega) (by omega), ncl (show k < 1000 by omega), sh1 (show b < 8 by omega), xor_nI ho hpb, xo hb6 (hmm k), tbm_M, updN_self mm k _ (mm k) rfl]
            rw [if_neg e] at h
            refine ihm (k + 1) _ _ (by omega) (Nat.le_trans (sp_bt_le _ _ _ _ _ _) hq) ?_ ?_ ?_ ?_ h <;> simp [cp_s1_at, cp_nl_int, cp_nl_ref, l0, l1, l2]
          · refine ih D (b + 1) (many + 1) (updN mm k (mm k ||| 2 ^ b)) (q.1, upd q.2.1 b (nI k), q.2.2) _ (by omega) (by omega) (by omega) hmm2 hq ?_
            simp only [cp_kk, cp_vc, cp_vs, cp_jm, cp_ent_en, cp_en_int, cp_en_ref, cp_en_ret, cp_en_long, cp_en_nil, cp_s1_at, cp_s2_at, cp_nl_int, cp_nl_ref, cp_nl_long, cp_nl_none, cp_pop_0, cp_pop_s, reduceIte, if_true, if_false, Bool.false_eq_true, Bool.true_eq_false, false_implies, implies_true, forall_const, true_implies, true_and, and_true, and_self, true_or, or_true, false_or, or_false, Value.category, List.length_cons, List.length_nil, Option.toList_some, Option.toList_none, List.cons_append, List.nil_append, List.append_nil, Prod.mk.injEq, Nat.add_zero, Nat.zero_add, Nat.reduceAdd, Nat.reduceSub, Nat.reduceEqDiff, Nat.reduceLeDiff, Nat.reduceLT, Nat.le_refl, beq_self_eq_true, Nat.reduceBEq, ne_eq, not_true_eq_false, not_false_eq_true, Int32.reduceAdd, Int32.reduceSub, Int32.reduceMul, Int32.reduceLE, Int32.reduceLT, Int32.reduceToNatClampNeg, b01_0, b01_1, ne_2_0, ne_3_0, ne_4_0, ne_5_0, ne_6_0, ne_m1_0, ne_m2_0, b01_01, b01_n, lt_m2, lt_m1, le_m2, le_m1, Classical.not_not, Bool.or_false, Bool.false_or, Bool.true_or, Bool.or_true, j_Mod_tryBaths_0, b_Mod_tryBaths_0, j_Mod_tryBaths_9, b_Mod_tryBaths_9, j_Mod_tryBaths_24, b_Mod_tryBaths_24, j_Mod_tryBaths_56, b_Mod_tryBaths_56, j_Mod_tryBaths_57, b_Mod_tryBaths_57, j_Mod_tryBaths_64, b_Mod_tryBaths_64, j_Mod_tryBaths_69, b_Mod_tryBaths_69, j_Mod_tryBaths_90, b_Mod_tryBaths_90, j_Mod_tryBaths_92, b_Mod_tryBaths_92, j_Mod_tryBaths_131, b_Mod_tryBaths_131, j_Mod_tryBaths_132, b_Mod_tryBaths_132, j_Mod_tryBaths_153, b_Mod_tryBaths_153, an_0, an_1, an_4, an_6, cl_0, cl_1, cl_4, cl_6, ne_0_1, ne_0_4, ne_0_6, ne_1_0, ne_1_4, ne_1_6, ne_4_0, ne_4_1, ne_4_6, ne_6_0, ne_6_1, ne_6_4, pp_44_15, pp_44_17, pp_44_24, pp_44_25, pp_44_26, sh_44, sh_47, sh_49, sh_53, sh_54, sh_55, vi_0, vi_1, vi_4, vi_6, l0, l1, l2, l3, nI_1, tbm55, updN_k, vin (show k < 6 by omega) (by omega), ncl (show k < 1000 by omega), sh1 (show b < 8 by omega), xor_nI ho hpb, xo hb6 (hmm k), tbm_M, updN_self mm k _ (mm k) rfl]
            rw [if_pos e] at h
            refine ihm (k + 1) _ _ (by omega) (Nat.le_trans (sp_bt_le _ _ _ _ _ _) hq) ?_ ?_ ?_ ?_ h <;> simp [cp_s1_at, cp_nl_int, cp_nl_ref, l0, l1, l2]
      refine inner (many + 1) 0 q _ (by omega) hq ?_ ?_ ?_ ?_ h <;> simp [cp_s1_at, cp_ent_en, cp_en_int, cp_en_ref, cp_nl_int, cp_nl_ref, nI_0]
    · have c1 : q.1 ≤ many := by
        exact Nat.le_of_not_lt (fun z => c (nI_lt z (by omega)))
      rw [if_pos c1] at h
      exact h
theorem mln : (1000000 : Int32) = nI 1000000 := by decide +kernel
def rbq (I : cp_I) (n : Nat) : tbT := sp_bt (rs I n 49) n 0 0 (fun _ => 0) (1000000, I 53, I 54)
theorem tbm_self {I : cp_I} (h : ∀ j, I 55 j = 0) : cp_u I 44 27 (nI 1000000) = tbm I (1000000, I 53, I 54) (fun _ => 0) := by
  funext a j
  by_cases h1 : a = 44 ∧ j = 27
  · simp [tbm, cp_u, h1]
  · by_cases h3 : a = 53
    · subst h3
      simp [tbm, cp_u]
    · by_cases h4 : a = 54
      · subst h4
        simp [tbm, cp_u]
      · by_cases h5 : a = 55
        · subst h5
          simp [tbm, cp_u, h, nI_0]
        · simp [tbm, cp_u, h1, h3, h4, h5]
theorem c_Mod_seekBaths {n : Nat} (hn6 : n ≤ 6) (hn : I 47 4 = nI n) (h55 : ∀ j, I 55 j = 0) (h : Q (some (.int (if (rbq I n).1 < 1000000 then 1 else 0))) SH (tbm I (rbq I n) (fun _ => 0)) J (PP t u r x)) : MW g false (d + 13) 0 0 m_Mod_seekBaths [.ref 44] SH I J (PP t u r x) Q := by
  have hle : (rbq I n).1 ≤ 1000000 := sp_bt_le _ _ _ _ _ _
  refine MW.of ok_Mod_seekBaths (Nat.le_of_ble_eq_true rfl) ?_
  refine cp_run 30 (fun _ => false) ck_Mod_seekBaths ?_
  simp only [cp_vc, cp_vs, cp_jm, cp_ent_en, cp_en_int, cp_en_ref, cp_en_ret, cp_en_long, cp_en_nil, cp_s1_at, cp_s2_at, cp_nl_int, cp_nl_ref, cp_nl_long, cp_nl_none, cp_pop_0, cp_pop_s, reduceIte, if_true, if_false, Bool.false_eq_true, Bool.true_eq_false, false_implies, implies_true, forall_const, true_implies, true_and, and_true, and_self, true_or, or_true, false_or, or_false, Value.category, List.length_cons, List.length_nil, Option.toList_some, Option.toList_none, List.cons_append, List.nil_append, List.append_nil, Prod.mk.injEq, Nat.add_zero, Nat.zero_add, Nat.reduceAdd, Nat.reduceSub, Nat.reduceEqDiff, Nat.reduceLeDiff, Nat.reduceLT, Nat.le_refl, beq_self_eq_true, Nat.reduceBEq, ne_eq, not_true_eq_false, not_false_eq_true, Int32.reduceAdd, Int32.reduceSub, Int32.reduceMul, Int32.reduceLE, Int32.reduceLT, Int32.reduceToNatClampNeg, b01_0, b01_1, ne_2_0, ne_3_0, ne_4_0, ne_5_0, ne_6_0, ne_m1_0, ne_m2_0, b01_01, b01_n, lt_m2, lt_m1, le_m2, le_m1, Classical.not_not, j_Mod_seekBaths_0, b_Mod_seekBaths_0, j_Mod_seekBaths_27, b_Mod_seekBaths_27, j_Mod_seekBaths_28, b_Mod_seekBaths_28, an_0, an_1, cl_0, cl_1, ne_0_1, ne_1_0, sh_44, vi_0, vi_1, mln, tbm_self h55]
  refine c_Mod_tryBaths (d := d + (6 - n)) hn6 hn n (d + 6) 0 0 (fun _ => 0) (1000000, I 53, I 54) _ (by omega) (by omega) (by omega) (fun k => by simp) (by simp) ?_
  show cp_kk _ _ _ _ _ _ _ _ (tbm I (rbq I n) fun _ => 0) _ _
  simp only [cp_kk, cp_vc, cp_vs, cp_jm, cp_ent_en, cp_en_int, cp_en_ref, cp_en_ret, cp_en_long, cp_en_nil, cp_s1_at, cp_s2_at, cp_nl_int, cp_nl_ref, cp_nl_long, cp_nl_none, cp_pop_0, cp_pop_s, reduceIte, if_true, if_false, Bool.false_eq_true, Bool.true_eq_false, false_implies, implies_true, forall_const, true_implies, true_and, and_true, and_self, true_or, or_true, false_or, or_false, Value.category, List.length_cons, List.length_nil, Option.toList_some, Option.toList_none, List.cons_append, List.nil_append, List.append_nil, Prod.mk.injEq, Nat.add_zero, Nat.zero_add, Nat.reduceAdd, Nat.reduceSub, Nat.reduceEqDiff, Nat.reduceLeDiff, Nat.reduceLT, Nat.le_refl, beq_self_eq_true, Nat.reduceBEq, ne_eq, not_true_eq_false, not_false_eq_true, Int32.reduceAdd, Int32.reduceSub, Int32.reduceMul, Int32.reduceLE, Int32.reduceLT, Int32.reduceToNatClampNeg, b01_0, b01_1, ne_2_0, ne_3_0, ne_4_0, ne_5_0, ne_6_0, ne_m1_0, ne_m2_0, b01_01, b01_n, lt_m2, lt_m1, le_m2, le_m1, Classical.not_not, Bool.or_false, Bool.false_or, Bool.true_or, Bool.or_true, j_Mod_seekBaths_0, b_Mod_seekBaths_0, j_Mod_seekBaths_27, b_Mod_seekBaths_27, j_Mod_seekBaths_28, b_Mod_seekBaths_28, an_0, an_1, cl_0, cl_1, ne_0_1, ne_1_0, sh_44, vi_0, vi_1, tbm44, mln]
  by_cases c : (rbq I n).1 < 1000000
  · rw [if_pos c] at h
    have : ¬ nI 1000000 ≤ nI (rbq I n).1 := nI_ge c (by omega)
    simp only [this, not_false_eq_true, false_implies, true_implies, true_and]
    exact h
  · rw [if_neg c] at h
    have : nI 1000000 ≤ nI (rbq I n).1 := nI_le (by omega) (by omega)
    simp only [this, not_true_eq_false, false_implies, true_implies, and_true]
    exact h
theorem rbq_gd (I : cp_I) (n : Nat) : rbq (gd I) n = rbq I n := by
  unfold rbq
  rw [show rs (gd I) n 49 = rs I n 49 from funext fun s => rs_gd I n s]
  congr 1
theorem gd55 {I : cp_I} (h : ∀ j, I 55 j = 0) (j : Nat) : gd I 55 j = 0 := by simp [gd, cp_u, h]
theorem c_Mod_baths {n : Nat} (hn6 : n ≤ 6) (hn : I 47 4 = nI n) (h55 : ∀ j, I 55 j = 0) (h1 : ¬ I 44 14 = 0 → Q (some (.int (if (rbq I n).1 < 1000000 then nI (rbq I n).1 else -2))) SH (tbm (gd I) (rbq I n) (fun _ => 0)) J (PP t u r x)) (h0 : I 44 14 = 0 → Q (some (.int (-1))) SH (cp_u (gd I) 44 11 1) J (PP t u r x)) : MW g false (d + 14) 0 0 m_Mod_baths [.ref 44] SH I J (PP t u r x) Q := by
  refine MW.of ok_Mod_baths (Nat.le_of_ble_eq_true rfl) ?_
  refine cp_run 30 (fun _ => false) ck_Mod_baths ?_
  simp only [cp_vc, cp_vs, cp_jm, cp_ent_en, cp_en_int, cp_en_ref, cp_en_ret, cp_en_long, cp_en_nil, cp_s1_at, cp_s2_at, cp_nl_int, cp_nl_ref, cp_nl_long, cp_nl_none, cp_pop_0, cp_pop_s, reduceIte, if_true, if_false, Bool.false_eq_true, Bool.true_eq_false, false_implies, implies_true, forall_const, true_implies, true_and, and_true, and_self, true_or, or_true, false_or, or_false, Value.category, List.length_cons, List.length_nil, Option.toList_some, Option.toList_none, List.cons_append, List.nil_append, List.append_nil, Prod.mk.injEq, Nat.add_zero, Nat.zero_add, Nat.reduceAdd, Nat.reduceSub, Nat.reduceEqDiff, Nat.reduceLeDiff, Nat.reduceLT, Nat.le_refl, beq_self_eq_true, Nat.reduceBEq, ne_eq, not_true_eq_false, not_false_eq_true, Int32.reduceAdd, Int32.reduceSub, Int32.reduceMul, Int32.reduceLE, Int32.reduceLT, Int32.reduceToNatClampNeg, b01_0, b01_1, ne_2_0, ne_3_0, ne_4_0, ne_5_0, ne_6_0, ne_m1_0, ne_m2_0, b01_01, b01_n, lt_m2, lt_m1, le_m2, le_m1, Classical.not_not, j_Mod_baths_0, b_Mod_baths_0, j_Mod_baths_17, b_Mod_baths_17, j_Mod_baths_31, b_Mod_baths_31, j_Mod_baths_33, b_Mod_baths_33, an_0, an_1, cl_1, ne_0_1, ne_0_m2, ne_1_0, ne_1_m2, ne_m2_0, ne_m2_1, sh_44, vi_1]
  refine c_Mod_gd ?_
  simp only [cp_kk, cp_vc, cp_vs, cp_jm, cp_ent_en, cp_en_int, cp_en_ref, cp_en_ret, cp_en_long, cp_en_nil, cp_s1_at, cp_s2_at, cp_nl_int, cp_nl_ref, cp_nl_long, cp_nl_none, cp_pop_0, cp_pop_s, reduceIte, if_true, if_false, Bool.false_eq_true, Bool.true_eq_false, false_implies, implies_true, forall_const, true_implies, true_and, and_true, and_self, true_or, or_true, false_or, or_false, Value.category, List.length_cons, List.length_nil, Option.toList_some, Option.toList_none, List.cons_append, List.nil_append, List.append_nil, Prod.mk.injEq, Nat.add_zero, Nat.zero_add, Nat.reduceAdd, Nat.reduceSub, Nat.reduceEqDiff, Nat.reduceLeDiff, Nat.reduceLT, Nat.le_refl, beq_self_eq_true, Nat.reduceBEq, ne_eq, not_true_eq_false, not_false_eq_true, Int32.reduceAdd, Int32.reduceSub, Int32.reduceMul, Int32.reduceLE, Int32.reduceLT, Int32.reduceToNatClampNeg, b01_0, b01_1, ne_2_0, ne_3_0, ne_4_0, ne_5_0, ne_6_0, ne_m1_0, ne_m2_0, b01_01, b01_n, lt_m2, lt_m1, le_m2, le_m1, Classical.not_not, Bool.or_false, Bool.false_or, Bool.true_or, Bool.or_true, j_Mod_baths_0, b_Mod_baths_0, j_Mod_baths_17, b_Mod_baths_17, j_Mod_baths_31, b_Mod_baths_31, j_Mod_baths_33, b_Mod_baths_33, an_0, an_1, cl_1, ne_0_1, ne_0_m2, ne_1_0, ne_1_m2, ne_m2_0, ne_m2_1, sh_44, vi_1, gd_14]
  refine ⟨fun c => ?_, fun c => ?_⟩
  · refine c_Mod_seekBaths hn6 (by rw [gd47]; exact hn) (gd55 h55) ?_
    rw [rbq_gd]
    simp only [cp_kk, cp_vc, cp_vs, cp_jm, cp_ent_en, cp_en_int, cp_en_ref, cp_en_ret, cp_en_long, cp_en_nil, cp_s1_at, cp_s2_at, cp_nl_int, cp_nl_ref, cp_nl_long, cp_nl_none, cp_pop_0, cp_pop_s, reduceIte, if_true, if_false, Bool.false_eq_true, Bool.true_eq_false, false_implies, implies_true, forall_const, true_implies, true_and, and_true, and_self, true_or, or_true, false_or, or_false, Value.category, List.length_cons, List.length_nil, Option.toList_some, Option.toList_none, List.cons_append, List.nil_append, List.append_nil, Prod.mk.injEq, Nat.add_zero, Nat.zero_add, Nat.reduceAdd, Nat.reduceSub, Nat.reduceEqDiff, Nat.reduceLeDiff, Nat.reduceLT, Nat.le_refl, beq_self_eq_true, Nat.reduceBEq, ne_eq, not_true_eq_false, not_false_eq_true, Int32.reduceAdd, Int32.reduceSub, Int32.reduceMul, Int32.reduceLE, Int32.reduceLT, Int32.reduceToNatClampNeg, b01_0, b01_1, ne_2_0, ne_3_0, ne_4_0, ne_5_0, ne_6_0, ne_m1_0, ne_m2_0, b01_01, b01_n, lt_m2, lt_m1, le_m2, le_m1, Classical.not_not, Bool.or_false, Bool.false_or, Bool.true_or, Bool.or_true, j_Mod_baths_0, b_Mod_baths_0, j_Mod_baths_17, b_Mod_baths_17, j_Mod_baths_31, b_Mod_baths_31, j_Mod_baths_33, b_Mod_baths_33, an_0, an_1, cl_1, ne_0_1, ne_0_m2, ne_1_0, ne_1_m2, ne_m2_0, ne_m2_1, sh_44, vi_1, tbm44]
    have := h1 c
    refine ⟨fun b => ?_, fun b => ?_⟩
    · rw [if_neg b] at this
      exact this
    · rw [if_pos b] at this
      exact this
  · refine c_Mod_no ?_
    simp only [cp_kk, cp_vc, cp_vs, cp_jm, cp_ent_en, cp_en_int, cp_en_ref, cp_en_ret, cp_en_long, cp_en_nil, cp_s1_at, cp_s2_at, cp_nl_int, cp_nl_ref, cp_nl_long, cp_nl_none, cp_pop_0, cp_pop_s, reduceIte, if_true, if_false, Bool.false_eq_true, Bool.true_eq_false, false_implies, implies_true, forall_const, true_implies, true_and, and_true, and_self, true_or, or_true, false_or, or_false, Value.category, List.length_cons, List.length_nil, Option.toList_some, Option.toList_none, List.cons_append, List.nil_append, List.append_nil, Prod.mk.injEq, Nat.add_zero, Nat.zero_add, Nat.reduceAdd, Nat.reduceSub, Nat.reduceEqDiff, Nat.reduceLeDiff, Nat.reduceLT, Nat.le_refl, beq_self_eq_true, Nat.reduceBEq, ne_eq, not_true_eq_false, not_false_eq_true, Int32.reduceAdd, Int32.reduceSub, Int32.reduceMul, Int32.reduceLE, Int32.reduceLT, Int32.reduceToNatClampNeg, b01_0, b01_1, ne_2_0, ne_3_0, ne_4_0, ne_5_0, ne_6_0, ne_m1_0, ne_m2_0, b01_01, b01_n, lt_m2, lt_m1, le_m2, le_m1, Classical.not_not, Bool.or_false, Bool.false_or, Bool.true_or, Bool.or_true, j_Mod_baths_0, b_Mod_baths_0, j_Mod_baths_17, b_Mod_baths_17, j_Mod_baths_31, b_Mod_baths_31, j_Mod_baths_33, b_Mod_baths_33, an_0, an_1, cl_1, ne_0_1, ne_0_m2, ne_1_0, ne_1_m2, ne_m2_0, ne_m2_1, sh_44, vi_1]
    exact h0 c
theorem isB_n {n : Nat} {bb : Int32} (hn6 : n ≤ 6) (hn : I 47 4 = nI n) (c : isB I bb) : ∃ b : Nat, b < n ∧ bb = nI b := by
  obtain ⟨-, c1, c2⟩ := c
  obtain ⟨j, hj, rfl⟩ := nI_of c1
  rw [hn, in_cd (by omega) hj] at c2
  exact ⟨j, by omega, rfl⟩
theorem c_Mod_bathOf {n : Nat} {bb : Int32} (hn6 : n ≤ 6) (hn : I 47 4 = nI n) (h55 : ∀ j, I 55 j = 0) (h1 : ∀ b, isB I bb → bb = nI b → b < n → Q (some (.int (if (rbq I n).1 < 1000000 then (rbq I n).2.2 b else -2))) SH (tbm (gd I) (rbq I n) (fun _ => 0)) J (PP t u r x)) (h0 : ¬ isB I bb → Q (some (.int (-1))) SH (cp_u (gd I) 44 11 1) J (PP t u r x)) : MW g false (d + 14) 0 0 m_Mod_bathOf [.ref 44, .int bb] SH I J (PP t u r x) Q := by
  refine MW.of ok_Mod_bathOf (Nat.le_of_ble_eq_true rfl) ?_
  refine cp_run 30 (fun _ => false) ck_Mod_bathOf ?_
  simp only [cp_vc, cp_vs, cp_jm, cp_ent_en, cp_en_int, cp_en_ref, cp_en_ret, cp_en_long, cp_en_nil, cp_s1_at, cp_s2_at, cp_nl_int, cp_nl_ref, cp_nl_long, cp_nl_none, cp_pop_0, cp_pop_s, reduceIte, if_true, if_false, Bool.false_eq_true, Bool.true_eq_false, false_implies, implies_true, forall_const, true_implies, true_and, and_true, and_self, true_or, or_true, false_or, or_false, Value.category, List.length_cons, List.length_nil, Option.toList_some, Option.toList_none, List.cons_append, List.nil_append, List.append_nil, Prod.mk.injEq, Nat.add_zero, Nat.zero_add, Nat.reduceAdd, Nat.reduceSub, Nat.reduceEqDiff, Nat.reduceLeDiff, Nat.reduceLT, Nat.le_refl, beq_self_eq_true, Nat.reduceBEq, ne_eq, not_true_eq_false, not_false_eq_true, Int32.reduceAdd, Int32.reduceSub, Int32.reduceMul, Int32.reduceLE, Int32.reduceLT, Int32.reduceToNatClampNeg, b01_0, b01_1, ne_2_0, ne_3_0, ne_4_0, ne_5_0, ne_6_0, ne_m1_0, ne_m2_0, b01_01, b01_n, lt_m2, lt_m1, le_m2, le_m1, Classical.not_not, j_Mod_bathOf_0, b_Mod_bathOf_0, j_Mod_bathOf_18, b_Mod_bathOf_18, j_Mod_bathOf_34, b_Mod_bathOf_34, j_Mod_bathOf_36, b_Mod_bathOf_36, an_0, an_1, cl_1, ne_0_1, ne_0_m2, ne_1_0, ne_1_m2, ne_m2_0, ne_m2_1, pp_44_25, sh_44, sh_54, vi_1]
  refine c_Mod_gd ?_
  simp only [cp_kk, cp_vc, cp_vs, cp_jm, cp_ent_en, cp_en_int, cp_en_ref, cp_en_ret, cp_en_long, cp_en_nil, cp_s1_at, cp_s2_at, cp_nl_int, cp_nl_ref, cp_nl_long, cp_nl_none, cp_pop_0, cp_pop_s, reduceIte, if_true, if_false, Bool.false_eq_true, Bool.true_eq_false, false_implies, implies_true, forall_const, true_implies, true_and, and_true, and_self, true_or, or_true, false_or, or_false, Value.category, List.length_cons, List.length_nil, Option.toList_some, Option.toList_none, List.cons_append, List.nil_append, List.append_nil, Prod.mk.injEq, Nat.add_zero, Nat.zero_add, Nat.reduceAdd, Nat.reduceSub, Nat.reduceEqDiff, Nat.reduceLeDiff, Nat.reduceLT, Nat.le_refl, beq_self_eq_true, Nat.reduceBEq, ne_eq, not_true_eq_false, not_false_eq_true, Int32.reduceAdd, Int32.reduceSub, Int32.reduceMul, Int32.reduceLE, Int32.reduceLT, Int32.reduceToNatClampNeg, b01_0, b01_1, ne_2_0, ne_3_0, ne_4_0, ne_5_0, ne_6_0, ne_m1_0, ne_m2_0, b01_01, b01_n, lt_m2, lt_m1, le_m2, le_m1, Classical.not_not, Bool.or_false, Bool.false_or, Bool.true_or, Bool.or_true, j_Mod_bathOf_0, b_Mod_bathOf_0, j_Mod_bathOf_18, b_Mod_bathOf_18, j_Mod_bathOf_34, b_Mod_bathOf_34, j_Mod_bathOf_36, b_Mod_bathOf_36, an_0, an_1, cl_1, ne_0_1, ne_0_m2, ne_1_0, ne_1_m2, ne_m2_0, ne_m2_1, pp_44_25, sh_44, sh_54, vi_1]
  refine c_Mod_isBather (fun c => ?_) (fun c => ?_)
  · simp only [cp_kk, cp_vc, cp_vs, cp_jm, cp_ent_en, cp_en_int, cp_en_ref, cp_en_ret, cp_en_long, cp_en_nil, cp_s1_at, cp_s2_at, cp_nl_int, cp_nl_ref, cp_nl_long, cp_nl_none, cp_pop_0, cp_pop_s, reduceIte, if_true, if_false, Bool.false_eq_true, Bool.true_eq_false, false_implies, implies_true, forall_const, true_implies, true_and, and_true, and_self, true_or, or_true, false_or, or_false, Value.category, List.length_cons, List.length_nil, Option.toList_some, Option.toList_none, List.cons_append, List.nil_append, List.append_nil, Prod.mk.injEq, Nat.add_zero, Nat.zero_add, Nat.reduceAdd, Nat.reduceSub, Nat.reduceEqDiff, Nat.reduceLeDiff, Nat.reduceLT, Nat.le_refl, beq_self_eq_true, Nat.reduceBEq, ne_eq, not_true_eq_false, not_false_eq_true, Int32.reduceAdd, Int32.reduceSub, Int32.reduceMul, Int32.reduceLE, Int32.reduceLT, Int32.reduceToNatClampNeg, b01_0, b01_1, ne_2_0, ne_3_0, ne_4_0, ne_5_0, ne_6_0, ne_m1_0, ne_m2_0, b01_01, b01_n, lt_m2, lt_m1, le_m2, le_m1, Classical.not_not, Bool.or_false, Bool.false_or, Bool.true_or, Bool.or_true, j_Mod_bathOf_0, b_Mod_bathOf_0, j_Mod_bathOf_18, b_Mod_bathOf_18, j_Mod_bathOf_34, b_Mod_bathOf_34, j_Mod_bathOf_36, b_Mod_bathOf_36, an_0, an_1, cl_1, ne_0_1, ne_0_m2, ne_1_0, ne_1_m2, ne_m2_0, ne_m2_1, pp_44_25, sh_44, sh_54, vi_1]
    rw [isB_gd] at c
    obtain ⟨b, hb, rfl⟩ := isB_n hn6 hn c
    refine c_Mod_seekBaths hn6 (by rw [gd47]; exact hn) (gd55 h55) ?_
    rw [rbq_gd]
    simp only [cp_kk, cp_vc, cp_vs, cp_jm, cp_ent_en, cp_en_int, cp_en_ref, cp_en_ret, cp_en_long, cp_en_nil, cp_s1_at, cp_s2_at, cp_nl_int, cp_nl_ref, cp_nl_long, cp_nl_none, cp_pop_0, cp_pop_s, reduceIte, if_true, if_false, Bool.false_eq_true, Bool.true_eq_false, false_implies, implies_true, forall_const, true_implies, true_and, and_true, and_self, true_or, or_true, false_or, or_false, Value.category, List.length_cons, List.length_nil, Option.toList_some, Option.toList_none, List.cons_append, List.nil_append, List.append_nil, Prod.mk.injEq, Nat.add_zero, Nat.zero_add, Nat.reduceAdd, Nat.reduceSub, Nat.reduceEqDiff, Nat.reduceLeDiff, Nat.reduceLT, Nat.le_refl, beq_self_eq_true, Nat.reduceBEq, ne_eq, not_true_eq_false, not_false_eq_true, Int32.reduceAdd, Int32.reduceSub, Int32.reduceMul, Int32.reduceLE, Int32.reduceLT, Int32.reduceToNatClampNeg, b01_0, b01_1, ne_2_0, ne_3_0, ne_4_0, ne_5_0, ne_6_0, ne_m1_0, ne_m2_0, b01_01, b01_n, lt_m2, lt_m1, le_m2, le_m1, Classical.not_not, Bool.or_false, Bool.false_or, Bool.true_or, Bool.or_true, j_Mod_bathOf_0, b_Mod_bathOf_0, j_Mod_bathOf_18, b_Mod_bathOf_18, j_Mod_bathOf_34, b_Mod_bathOf_34, j_Mod_bathOf_36, b_Mod_bathOf_36, an_0, an_1, cl_1, ne_0_1, ne_0_m2, ne_1_0, ne_1_m2, ne_m2_0, ne_m2_1, pp_44_25, sh_44, sh_54, vi_1, tbm54, vin (show b < 6 by omega) (by omega), ncl (show b < 1000 by omega)]
    have := h1 b c rfl hb
    refine ⟨fun b => ?_, fun b => ?_⟩
    · rw [if_neg b] at this
      exact this
    · rw [if_pos b] at this
      exact this
  · simp only [cp_kk, cp_vc, cp_vs, cp_jm, cp_ent_en, cp_en_int, cp_en_ref, cp_en_ret, cp_en_long, cp_en_nil, cp_s1_at, cp_s2_at, cp_nl_int, cp_nl_ref, cp_nl_long, cp_nl_none, cp_pop_0, cp_pop_s, reduceIte, if_true, if_false, Bool.false_eq_true, Bool.true_eq_false, false_implies, implies_true, forall_const, true_implies, true_and, and_true, and_self, true_or, or_true, false_or, or_false, Value.category, List.length_cons, List.length_nil, Option.toList_some, Option.toList_none, List.cons_append, List.nil_append, List.append_nil, Prod.mk.injEq, Nat.add_zero, Nat.zero_add, Nat.reduceAdd, Nat.reduceSub, Nat.reduceEqDiff, Nat.reduceLeDiff, Nat.reduceLT, Nat.le_refl, beq_self_eq_true, Nat.reduceBEq, ne_eq, not_true_eq_false, not_false_eq_true, Int32.reduceAdd, Int32.reduceSub, Int32.reduceMul, Int32.reduceLE, Int32.reduceLT, Int32.reduceToNatClampNeg, b01_0, b01_1, ne_2_0, ne_3_0, ne_4_0, ne_5_0, ne_6_0, ne_m1_0, ne_m2_0, b01_01, b01_n, lt_m2, lt_m1, le_m2, le_m1, Classical.not_not, Bool.or_false, Bool.false_or, Bool.true_or, Bool.or_true, j_Mod_bathOf_0, b_Mod_bathOf_0, j_Mod_bathOf_18, b_Mod_bathOf_18, j_Mod_bathOf_34, b_Mod_bathOf_34, j_Mod_bathOf_36, b_Mod_bathOf_36, an_0, an_1, cl_1, ne_0_1, ne_0_m2, ne_1_0, ne_1_m2, ne_m2_0, ne_m2_1, pp_44_25, sh_44, sh_54, vi_1]
    refine c_Mod_no ?_
    simp only [cp_kk, cp_vc, cp_vs, cp_jm, cp_ent_en, cp_en_int, cp_en_ref, cp_en_ret, cp_en_long, cp_en_nil, cp_s1_at, cp_s2_at, cp_nl_int, cp_nl_ref, cp_nl_long, cp_nl_none, cp_pop_0, cp_pop_s, reduceIte, if_true, if_false, Bool.false_eq_true, Bool.true_eq_false, false_implies, implies_true, forall_const, true_implies, true_and, and_true, and_self, true_or, or_true, false_or, or_false, Value.category, List.length_cons, List.length_nil, Option.toList_some, Option.toList_none, List.cons_append, List.nil_append, List.append_nil, Prod.mk.injEq, Nat.add_zero, Nat.zero_add, Nat.reduceAdd, Nat.reduceSub, Nat.reduceEqDiff, Nat.reduceLeDiff, Nat.reduceLT, Nat.le_refl, beq_self_eq_true, Nat.reduceBEq, ne_eq, not_true_eq_false, not_false_eq_true, Int32.reduceAdd, Int32.reduceSub, Int32.reduceMul, Int32.reduceLE, Int32.reduceLT, Int32.reduceToNatClampNeg, b01_0, b01_1, ne_2_0, ne_3_0, ne_4_0, ne_5_0, ne_6_0, ne_m1_0, ne_m2_0, b01_01, b01_n, lt_m2, lt_m1, le_m2, le_m1, Classical.not_not, Bool.or_false, Bool.false_or, Bool.true_or, Bool.or_true, j_Mod_bathOf_0, b_Mod_bathOf_0, j_Mod_bathOf_18, b_Mod_bathOf_18, j_Mod_bathOf_34, b_Mod_bathOf_34, j_Mod_bathOf_36, b_Mod_bathOf_36, an_0, an_1, cl_1, ne_0_1, ne_0_m2, ne_1_0, ne_1_m2, ne_m2_0, ne_m2_1, pp_44_25, sh_44, sh_54, vi_1]
    rw [isB_gd] at c
    exact h0 c
end Mod18
