section Read5
variable {g : cp_G} {d : Nat} {sh : cp_H} {I M : cp_I} {J J0 : cp_J} {P : cp_P} {Q : cp_QT} {t u r x : Nat} {T : Nat → Nat} {n p : Nat} {s : pS}
theorem cr_foes : (17 < 36 ∧ tx 17 = w_foes.map nI) ∧ ∀ c ∈ w_foes, c < 256 := by decide +kernel
theorem cr_unsure : (18 < 36 ∧ tx 18 = w_unsure.map nI) ∧ ∀ c ∈ w_unsure, c < 256 := by decide +kernel
theorem lp_Read_paired {b m len : Nat} (hr : tk r) (hl : len ≤ 6) (hb : b < 6) (h4 : M r 4 = nI len) (h5 : M r 5 = nI m) : ∀ (k o z : Nat) (L : cp_Lo), o + k = len → z < 64 → L 0 = some (.ref 12) → L 1 = some (.int (nI b)) → L 2 = some (.int (nI z)) → L 3 = some (.int (nI o)) →
    Q (some (.int (nI (fo (fun o z => if (!decide (o = b) && m.testBit (pbk b o)) = true then z ||| 2 ^ o else z) k o z)))) SH M J (PP t u r 1) → RW g false (d + 2) 0 0 m_Read_pairedWith 0 0 4 L [] SH M J (PP t u r 1) Q := by
  intro k
  induction k with
  | zero =>
    intro o z L ho hz l0 l1 l2 l3 hq
    have c1 : nI len ≤ nI o := nI_le (by omega) (by omega)
    refine cp_run 20 (fun t => t == 4) ck_Read_pairedWith ?_
    rw [j_Read_pairedWith_4, b_Read_pairedWith_4]
    simp only [cp_vc, cp_vs, cp_jm, cp_ent_en, cp_en_int, cp_en_ref, cp_en_ret, cp_en_long, cp_en_nil, cp_s1_at, cp_s2_at, cp_nl_int, cp_nl_ref, cp_nl_long, cp_nl_none, cp_pop_0, cp_pop_s, reduceIte, if_true, if_false, Bool.false_eq_true, Bool.true_eq_false, false_implies, implies_true, forall_const, true_implies, true_and, and_true, and_self, true_or, or_true, false_or, or_false, Value.category, List.length_cons, List.length_nil, Option.toList_some, Option.toList_none, List.cons_append, List.nil_append, List.append_nil, Prod.mk.injEq, Nat.add_zero, Nat.zero_add, Nat.reduceAdd, Nat.reduceSub, Nat.reduceEqDiff, Nat.reduceLeDiff, Nat.reduceLT, Nat.le_refl, beq_self_eq_true, Nat.reduceBEq, ne_eq, not_true_eq_false, not_false_eq_true, Int32.reduceAdd, Int32.reduceSub, Int32.reduceMul, Int32.reduceLE, Int32.reduceLT, Int32.reduceToNatClampNeg, b01_0, b01_1, ne_2_0, ne_3_0, ne_4_0, ne_5_0, ne_6_0, ne_m1_0, ne_m2_0, b01_01, b01_n, lt_m2, lt_m1, le_m2, le_m1, Classical.not_not, j_Read_pairedWith_0, b_Read_pairedWith_0, j_Read_pairedWith_42, b_Read_pairedWith_42, j_Read_pairedWith_48, b_Read_pairedWith_48, an_0, an_1, cl_0, cl_1, ne_0_1, ne_1_0, pp_12_1, sh_12, vi_0, vi_1, l0, l1, l2, l3, pp_12_1, sT0 hr, sT1 hr, sT2 hr, sT3 hr, sT4 hr, sT5 hr, sT6 hr, sT7 hr, sT8 hr, sT9 hr, pT1 hr, pT2 hr, pT3 hr, pT4 hr, pT5 hr, pT6 hr, pT7 hr, pT8 hr, pT9 hr, h4, c1]
    exact hq
  | succ k ih =>
    intro o z L ho hz l0 l1 l2 l3 hq
    have c1 : ¬ nI len ≤ nI o := nI_ge (by omega) (by omega)
    have hpo := pow_lt64 (show o < 6 by omega)
    rw [fo] at hq
    refine cp_run 40 (fun t => t == 4) ck_Read_pairedWith ?_
    rw [j_Read_pairedWith_4, b_Read_pairedWith_4]
    simp only [cp_vc, cp_vs, cp_jm, cp_ent_en, cp_en_int, cp_en_ref, cp_en_ret, cp_en_long, cp_en_nil, cp_s1_at, cp_s2_at, cp_nl_int, cp_nl_ref, cp_nl_long, cp_nl_none, cp_pop_0, cp_pop_s, reduceIte, if_true, if_false, Bool.false_eq_true, Bool.true_eq_false, false_implies, implies_true, forall_const, true_implies, true_and, and_true, and_self, true_or, or_true, false_or, or_false, Value.category, List.length_cons, List.length_nil, Option.toList_some, Option.toList_none, List.cons_append, List.nil_append, List.append_nil, Prod.mk.injEq, Nat.add_zero, Nat.zero_add, Nat.reduceAdd, Nat.reduceSub, Nat.reduceEqDiff, Nat.reduceLeDiff, Nat.reduceLT, Nat.le_refl, beq_self_eq_true, Nat.reduceBEq, ne_eq, not_true_eq_false, not_false_eq_true, Int32.reduceAdd, Int32.reduceSub, Int32.reduceMul, Int32.reduceLE, Int32.reduceLT, Int32.reduceToNatClampNeg, b01_0, b01_1, ne_2_0, ne_3_0, ne_4_0, ne_5_0, ne_6_0, ne_m1_0, ne_m2_0, b01_01, b01_n, lt_m2, lt_m1, le_m2, le_m1, Classical.not_not, j_Read_pairedWith_0, b_Read_pairedWith_0, j_Read_pairedWith_42, b_Read_pairedWith_42, j_Read_pairedWith_48, b_Read_pairedWith_48, an_0, an_1, cl_0, cl_1, ne_0_1, ne_1_0, pp_12_1, sh_12, vi_0, vi_1, l0, l1, l2, l3, pp_12_1, sT0 hr, sT1 hr, sT2 hr, sT3 hr, sT4 hr, sT5 hr, sT6 hr, sT7 hr, sT8 hr, sT9 hr, pT1 hr, pT2 hr, pT3 hr, pT4 hr, pT5 hr, pT6 hr, pT7 hr, pT8 hr, pT9 hr, h4, c1, eqN (show o < 1000 by omega) (show b < 1000 by omega), nI_1]
    refine ⟨fun c => ?_, fun c => ?_⟩
    · rw [if_neg (by simp [c])] at hq
      refine ih (o + 1) z _ (by omega) hz ?_ ?_ ?_ ?_ hq <;> simp [cp_s1_at, cp_nl_int, cp_nl_ref, l0, l1, l2]
    · refine c_CP_pairBit hb (by omega) (Ne.symm c) ?_
      have hlt := pbk_lt hb (show o < 6 by omega) (Ne.symm c)
      simp only [cp_kk, cp_vc, cp_vs, cp_jm, cp_ent_en, cp_en_int, cp_en_ref, cp_en_ret, cp_en_long, cp_en_nil, cp_s1_at, cp_s2_at, cp_nl_int, cp_nl_ref, cp_nl_long, cp_nl_none, cp_pop_0, cp_pop_s, reduceIte, if_true, if_false, Bool.false_eq_true, Bool.true_eq_false, false_implies, implies_true, forall_const, true_implies, true_and, and_true, and_self, true_or, or_true, false_or, or_false, Value.category, List.length_cons, List.length_nil, Option.toList_some, Option.toList_none, List.cons_append, List.nil_append, List.append_nil, Prod.mk.injEq, Nat.add_zero, Nat.zero_add, Nat.reduceAdd, Nat.reduceSub, Nat.reduceEqDiff, Nat.reduceLeDiff, Nat.reduceLT, Nat.le_refl, beq_self_eq_true, Nat.reduceBEq, ne_eq, not_true_eq_false, not_false_eq_true, Int32.reduceAdd, Int32.reduceSub, Int32.reduceMul, Int32.reduceLE, Int32.reduceLT, Int32.reduceToNatClampNeg, b01_0, b01_1, ne_2_0, ne_3_0, ne_4_0, ne_5_0, ne_6_0, ne_m1_0, ne_m2_0, b01_01, b01_n, lt_m2, lt_m1, le_m2, le_m1, Classical.not_not, Bool.or_false, Bool.false_or, Bool.true_or, Bool.or_true, j_Read_pairedWith_0, b_Read_pairedWith_0, j_Read_pairedWith_42, b_Read_pairedWith_42, j_Read_pairedWith_48, b_Read_pairedWith_48, an_0, an_1, cl_0, cl_1, ne_0_1, ne_1_0, pp_12_1, sh_12, vi_0, vi_1, l0, l1, l2, l3, h5, bit_g (show pbk b o < 31 by omega), sh1 (show o < 8 by omega), or_nI hz hpo, nI_1]
      refine ⟨fun c2 => ?_, fun c2 => ?_⟩
      · rw [if_neg (by simp [c2])] at hq
        refine ih (o + 1) z _ (by omega) hz ?_ ?_ ?_ ?_ hq <;> simp [cp_s1_at, cp_nl_int, cp_nl_ref, l0, l1, l2]
      · rw [if_pos (by simp [c]; simpa using c2)] at hq
        refine ih (o + 1) (z ||| 2 ^ o) _ (by omega) (or_lt64 hz hpo) ?_ ?_ ?_ ?_ hq <;> simp [cp_s1_at, cp_nl_int, cp_nl_ref, l0, l1]
theorem c_Read_paired {b m len : Nat} (hr : tk r) (hl : len ≤ 6) (hb : b < 6) (h4 : M r 4 = nI len) (h5 : M r 5 = nI m) (h : Q (some (.int (nI (sp_set len (fun o => !decide (o = b) && m.testBit (pbk b o)))))) SH M J (PP t u r 1)) : MW g false (d + 2) 0 0 m_Read_pairedWith [.ref 12, .int (nI b)] SH M J (PP t u r 1) Q := by
  refine MW.of ok_Read_pairedWith (Nat.le_of_ble_eq_true rfl) ?_
  refine cp_run 20 (fun t => t == 4) ck_Read_pairedWith ?_
  simp only [cp_vc, cp_vs, cp_jm, cp_ent_en, cp_en_int, cp_en_ref, cp_en_ret, cp_en_long, cp_en_nil, cp_s1_at, cp_s2_at, cp_nl_int, cp_nl_ref, cp_nl_long, cp_nl_none, cp_pop_0, cp_pop_s, reduceIte, if_true, if_false, Bool.false_eq_true, Bool.true_eq_false, false_implies, implies_true, forall_const, true_implies, true_and, and_true, and_self, true_or, or_true, false_or, or_false, Value.category, List.length_cons, List.length_nil, Option.toList_some, Option.toList_none, List.cons_append, List.nil_append, List.append_nil, Prod.mk.injEq, Nat.add_zero, Nat.zero_add, Nat.reduceAdd, Nat.reduceSub, Nat.reduceEqDiff, Nat.reduceLeDiff, Nat.reduceLT, Nat.le_refl, beq_self_eq_true, Nat.reduceBEq, ne_eq, not_true_eq_false, not_false_eq_true, Int32.reduceAdd, Int32.reduceSub, Int32.reduceMul, Int32.reduceLE, Int32.reduceLT, Int32.reduceToNatClampNeg, b01_0, b01_1, ne_2_0, ne_3_0, ne_4_0, ne_5_0, ne_6_0, ne_m1_0, ne_m2_0, b01_01, b01_n, lt_m2, lt_m1, le_m2, le_m1, Classical.not_not, j_Read_pairedWith_0, b_Read_pairedWith_0, j_Read_pairedWith_42, b_Read_pairedWith_42, j_Read_pairedWith_48, b_Read_pairedWith_48, an_0, an_1, cl_0, cl_1, ne_0_1, ne_1_0, pp_12_1, sh_12, vi_0, vi_1]
  refine lp_Read_paired hr hl hb h4 h5 len 0 0 _ (by omega) (by omega) ?_ ?_ ?_ ?_ h <;> simp [cp_s1_at, cp_ent_en, cp_en_ref, cp_en_int, cp_nl_ref, cp_nl_int, nI_0]
theorem c_Read_keepUnsure {a b v i : Nat} (hr : tk r) (h6 : M r 6 = nI i) (hi : i < 4) (hv : M 12 4 = nI v) (h : Q none SH (cp_u (cp_u (cp_u (cp_u M (r + 5) i (nI a)) (r + 6) i (nI b)) (r + 7) i (nI v)) r 6 (nI (i + 1))) J (PP t u r 1)) : MW g false (d + 1) 0 0 m_Read_keepUnsure [.ref 12, .int (nI a), .int (nI b)] SH M J (PP t u r 1) Q := by
  have c1 : ¬ (4 : Int32) ≤ nI i := nI_ge (b := 4) (by omega) (by omega)
  have n5 := r_13 hr (k := 5) (by omega)
  have n6 := r_13 hr (k := 6) (by omega)
  have q5 : ¬ 12 = r + 5 := by omega
  have q6 : ¬ 12 = r + 6 := by omega
  refine MW.of ok_Read_keepUnsure (Nat.le_of_ble_eq_true rfl) ?_
  refine cp_run 60 (fun _ => false) ck_Read_keepUnsure ?_
  simp only [cp_vc, cp_vs, cp_jm, cp_ent_en, cp_en_int, cp_en_ref, cp_en_ret, cp_en_long, cp_en_nil, cp_s1_at, cp_s2_at, cp_nl_int, cp_nl_ref, cp_nl_long, cp_nl_none, cp_pop_0, cp_pop_s, reduceIte, if_true, if_false, Bool.false_eq_true, Bool.true_eq_false, false_implies, implies_true, forall_const, true_implies, true_and, and_true, and_self, true_or, or_true, false_or, or_false, Value.category, List.length_cons, List.length_nil, Option.toList_some, Option.toList_none, List.cons_append, List.nil_append, List.append_nil, Prod.mk.injEq, Nat.add_zero, Nat.zero_add, Nat.reduceAdd, Nat.reduceSub, Nat.reduceEqDiff, Nat.reduceLeDiff, Nat.reduceLT, Nat.le_refl, beq_self_eq_true, Nat.reduceBEq, ne_eq, not_true_eq_false, not_false_eq_true, Int32.reduceAdd, Int32.reduceSub, Int32.reduceMul, Int32.reduceLE, Int32.reduceLT, Int32.reduceToNatClampNeg, b01_0, b01_1, ne_2_0, ne_3_0, ne_4_0, ne_5_0, ne_6_0, ne_m1_0, ne_m2_0, b01_01, b01_n, lt_m2, lt_m1, le_m2, le_m1, Classical.not_not, j_Read_keepUnsure_0, b_Read_keepUnsure_0, j_Read_keepUnsure_56, b_Read_keepUnsure_56, an_0, an_1, an_4, cl_1, cl_4, ne_0_1, ne_0_4, ne_1_0, ne_1_4, ne_4_0, ne_4_1, pp_12_1, sh_12, vi_1, vi_4, pp_12_1, sT0 hr, sT1 hr, sT2 hr, sT3 hr, sT4 hr, sT5 hr, sT6 hr, sT7 hr, sT8 hr, sT9 hr, pT1 hr, pT2 hr, pT3 hr, pT4 hr, pT5 hr, pT6 hr, pT7 hr, pT8 hr, pT9 hr, h6, c1, vin (show i < 4 by omega) (by omega), ncl (show i < 1000 by omega), cp_u_at, q5, q6, false_and, hv, nI_1]
  exact h
theorem pbk_inj {a b x y : Nat} (ha : a < 6) (hb : b < 6) (hab : a ≠ b) (hx : x < 6) (hy : y < 6) (hxy : x ≠ y) : (pbk a b = pbk x y) = ((a = x ∧ b = y) ∨ (a = y ∧ b = x)) := by
  refine propext ⟨fun e => ?_, fun e => ?_⟩
  · unfold pbk at e
    omega
  · rcases e with ⟨rfl, rfl⟩ | ⟨rfl, rfl⟩
    · rfl
    · exact pbk_sym _ _
/-- a pair told of -/
theorem cFr_pair {F : Nat → Int32} {a b za zb : Nat} {w : Int32} (h : cFr F M r) (h46 : (F 4).toNatClampNeg ≤ 6) (ha : a < 6) (hb : b < 6) (hab : a ≠ b) (hza : F (58 + a) = nI za ∧ za < 64) (hzb : F (58 + b) = nI zb ∧ zb < 64) :
    cFr (upd (upd (upd (upd F (58 + a) (F (58 + a) ||| nI (2 ^ b))) (58 + b) (F (58 + b) ||| nI (2 ^ a))) (22 + 6 * a + b) w) (22 + 6 * b + a) w) (cp_u (cp_u (cp_u M (r + 4) (6 * a + b) w) (r + 4) (6 * b + a) w) r 5 (M r 5 ||| nI (2 ^ pbk a b))) r := by
  obtain ⟨⟨a0, a1, a2, a3, a4, a6, a7⟩, bb, c, dd, f, m, m1, m2, m3⟩ := h
  have hF : ∀ j, ¬ (22 ≤ j ∧ j < 64) → upd (upd (upd (upd F (58 + a) (F (58 + a) ||| nI (2 ^ b))) (58 + b) (F (58 + b) ||| nI (2 ^ a))) (22 + 6 * a + b) w) (22 + 6 * b + a) w j = F j := by
    intro j hj
    rw [pk_un (by omega), pk_un (by omega), pk_un (by omega), pk_un (by omega)]
  have o : ∀ q i, 1 ≤ q → ¬ q = 4 → cp_u (cp_u (cp_u M (r + 4) (6 * a + b) w) (r + 4) (6 * b + a) w) r 5 (M r 5 ||| nI (2 ^ pbk a b)) (r + q) i = M (r + q) i := by
    intro q i h1 h2
    rw [cp_u_at, if_neg (by omega), cp_u_at, if_neg (by omega), cp_u_at, if_neg (by omega)]
  have oo : ∀ i, ¬ i = 5 → cp_u (cp_u (cp_u M (r + 4) (6 * a + b) w) (r + 4) (6 * b + a) w) r 5 (M r 5 ||| nI (2 ^ pbk a b)) r i = M r i := by
    intro i h1
    rw [cp_u_at, if_neg (by omega), cp_u_at, if_neg (by omega), cp_u_at, if_neg (by omega)]
  have hlt := pbk_lt ha hb hab
  have hpp : 2 ^ pbk a b < 2 ^ 30 := Nat.pow_lt_pow_right (by omega) hlt
  refine ⟨⟨?_, ?_, ?_, ?_, ?_, ?_, ?_⟩, ?_, ?_, ?_, ?_, m ||| 2 ^ pbk a b, Nat.or_lt_two_pow m1 hpp, ?_, ?_⟩
  · rw [oo 0 (by omega), hF 0 (by omega)]; exact a0
  · rw [oo 1 (by omega), hF 1 (by omega)]; exact a1
  · rw [oo 2 (by omega), hF 2 (by omega)]; exact a2
  · rw [oo 3 (by omega), hF 3 (by omega)]; exact a3
  · rw [oo 4 (by omega), hF 4 (by omega)]; exact a4
  · rw [oo 6 (by omega), hF 7 (by omega)]; exact a6
  · rw [oo 7 (by omega), hF 8 (by omega)]; exact a7
  · intro i hi
    rw [hF 4 (by omega)] at hi
    have hb4 := bb i hi
    rw [o 2 i (by omega) (by omega), o 3 i (by omega) (by omega)]
    rw [hF _ (by omega), hF _ (by omega)]
    exact hb4
  · intro x y hx hy
    rw [cp_u_at, if_neg (by omega)]
    by_cases e1 : 6 * x + y = 6 * b + a
    · have : 22 + 6 * x + y = 22 + 6 * b + a := by omega
      rw [this, pk_us, e1, cp_u_at, if_pos ⟨rfl, rfl⟩]
    · rw [cp_u_at, if_neg (by omega), pk_un (by omega)]
      by_cases e2 : 6 * x + y = 6 * a + b
      · have : 22 + 6 * x + y = 22 + 6 * a + b := by omega
        rw [this, pk_us, e2, cp_u_at, if_pos ⟨rfl, rfl⟩]
      · rw [cp_u_at, if_neg (by omega), pk_un (by omega), pk_un (by omega), pk_un (by omega)]
        exact c x y hx hy
  · intro i hi
    rw [hF 7 (by omega)] at hi
    rw [o 5 i (by omega) (by omega), o 6 i (by omega) (by omega), o 7 i (by omega) (by omega), hF _ (by omega), hF _ (by omega), hF _ (by omega)]
    exact dd i hi
  · intro i hi
    rw [hF 8 (by omega)] at hi
    rw [o 8 i (by omega) (by omega), o 9 i (by omega) (by omega), hF _ (by omega), hF _ (by omega)]
    exact f i hi
  · rw [cp_u_at, if_pos ⟨rfl, rfl⟩, m2, or_g]
  · intro x y hx hy hxy
    have hpa := pow_lt64 ha
    have hpb := pow_lt64 hb
    rw [pk_un (by omega), pk_un (by omega), Nat.testBit_or, Nat.testBit_two_pow]
    simp only [pbk_inj ha hb hab hx hy hxy]
    rw [m3 x y hx hy hxy]
    by_cases e1 : x = b
    · subst e1
      rw [pk_us, hzb.1, or_nI hzb.2 hpa, ncl (show zb ||| 2 ^ a < 1000 by have := or_lt64 hzb.2 hpa; omega), ncl (show zb < 1000 by omega), Nat.testBit_or, Nat.testBit_two_pow]
      congr 1
      by_cases e2 : a = y
      · simp [e2]
      · simp [e2, hab]
    · rw [pk_un (by omega)]
      by_cases e2 : x = a
      · subst e2
        rw [pk_us, hza.1, or_nI hza.2 hpb, ncl (show za ||| 2 ^ b < 1000 by have := or_lt64 hza.2 hpb; omega), ncl (show za < 1000 by omega), Nat.testBit_or, Nat.testBit_two_pow]
        congr 1
        by_cases e3 : b = y
        · simp [e3]
        · simp [e3, Ne.symm e1]
      · rw [pk_un (by omega)]
        simp [Ne.symm e1, Ne.symm e2]
/-- an unsure pair kept -/
theorem cFr_uns {F : Nat → Int32} {a b v i : Nat} (h : cFr F M r) (h46 : (F 4).toNatClampNeg ≤ 6) (h7 : F 7 = nI i) (hi : i < 4) : cFr (upd (upd (upd (upd F (64 + 3 * i) (nI a)) (65 + 3 * i) (nI b)) (66 + 3 * i) (nI v)) 7 (nI (i + 1))) (cp_u (cp_u (cp_u (cp_u M (r + 5) i (nI a)) (r + 6) i (nI b)) (r + 7) i (nI v)) r 6 (nI (i + 1))) r := by
  obtain ⟨⟨a0, a1, a2, a3, a4, a6, a7⟩, bb, c, dd, f, m, m1, m2, m3⟩ := h
  have hc7 : (F 7).toNatClampNeg = i := by rw [h7]; exact ncl (by omega)
  have hF : ∀ j, ¬ (64 ≤ j ∧ j < 76) → ¬ j = 7 → upd (upd (upd (upd F (64 + 3 * i) (nI a)) (65 + 3 * i) (nI b)) (66 + 3 * i) (nI v)) 7 (nI (i + 1)) j = F j := by
    intro j hj hj7
    rw [pk_un (by omega), pk_un (by omega), pk_un (by omega), pk_un (by omega)]
  have o : ∀ q k, 1 ≤ q → ¬ (5 ≤ q ∧ q ≤ 7 ∧ k = i) → cp_u (cp_u (cp_u (cp_u M (r + 5) i (nI a)) (r + 6) i (nI b)) (r + 7) i (nI v)) r 6 (nI (i + 1)) (r + q) k = M (r + q) k := by
    intro q k h1 h2
    rw [cp_u_at, if_neg (by omega), cp_u_at, if_neg (by omega), cp_u_at, if_neg (by omega), cp_u_at, if_neg (by omega)]
  have oo : ∀ k, ¬ k = 6 → cp_u (cp_u (cp_u (cp_u M (r + 5) i (nI a)) (r + 6) i (nI b)) (r + 7) i (nI v)) r 6 (nI (i + 1)) r k = M r k := by
    intro k h1
    rw [cp_u_at, if_neg (by omega), cp_u_at, if_neg (by omega), cp_u_at, if_neg (by omega), cp_u_at, if_neg (by omega)]
  refine ⟨⟨?_, ?_, ?_, ?_, ?_, ?_, ?_⟩, ?_, ?_, ?_, ?_, m, m1, by rw [oo 5 (by omega)]; exact m2, ?_⟩
  · rw [oo 0 (by omega), hF 0 (by omega) (by omega)]; exact a0
  · rw [oo 1 (by omega), hF 1 (by omega) (by omega)]; exact a1
  · rw [oo 2 (by omega), hF 2 (by omega) (by omega)]; exact a2
  · rw [oo 3 (by omega), hF 3 (by omega) (by omega)]; exact a3
  · rw [oo 4 (by omega), hF 4 (by omega) (by omega)]; exact a4
  · rw [pk_us, cp_u_at, if_pos ⟨rfl, rfl⟩]
  · rw [oo 7 (by omega), hF 8 (by omega) (by omega)]; exact a7
  · intro k hk
    rw [hF 4 (by omega) (by omega)] at hk
    rw [o 2 k (by omega) (by omega), o 3 k (by omega) (by omega), hF _ (by omega) (by omega), hF _ (by omega) (by omega)]
    exact bb k hk
  · intro x y hx hy
    rw [o 4 _ (by omega) (by omega), hF _ (by omega) (by omega)]
    exact c x y hx hy
  · intro k hk
    rw [pk_us, ncl (show i + 1 < 1000 by omega)] at hk
    by_cases e : k = i
    · subst e
      refine ⟨?_, ?_, ?_⟩
      · rw [cp_u_at, if_neg (by omega), cp_u_at, if_neg (by omega), cp_u_at, if_neg (by omega), cp_u_at, if_pos ⟨rfl, rfl⟩, pk_un (by omega), pk_un (by omega), pk_un (by omega), pk_us]
      · rw [cp_u_at, if_neg (by omega), cp_u_at, if_neg (by omega), cp_u_at, if_pos ⟨rfl, rfl⟩, pk_un (by omega), pk_un (by omega), pk_us]
      · rw [cp_u_at, if_neg (by omega), cp_u_at, if_pos ⟨rfl, rfl⟩, pk_un (by omega), pk_us]
    · rw [o 5 k (by omega) (by omega), o 6 k (by omega) (by omega), o 7 k (by omega) (by omega)]
      have := dd k (by omega)
      rw [pk_un (by omega), pk_un (by omega), pk_un (by omega), pk_un (by omega), pk_un (by omega), pk_un (by omega), pk_un (by omega), pk_un (by omega), pk_un (by omega), pk_un (by omega), pk_un (by omega), pk_un (by omega)]
      exact this
  · intro k hk
    rw [hF 8 (by omega) (by omega)] at hk
    rw [o 8 k (by omega) (by omega), o 9 k (by omega) (by omega), hF _ (by omega) (by omega), hF _ (by omega) (by omega)]
    exact f k hk
  · intro x y hx hy hxy
    rw [hF _ (by omega) (by omega)]
    exact m3 x y hx hy hxy
theorem upd_self {F : Nat → Int32} {k : Nat} {v : Int32} (h : F k = v) : upd F k v = F := by
  funext j
  unfold upd
  by_cases e : j = k
  · rw [if_pos e, e, h]
  · rw [if_neg e]
end Read5
