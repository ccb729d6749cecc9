section Feed
variable {g : cp_G} {d : Nat} {sh : cp_H} {I M N : cp_I} {J : cp_J} {P : cp_P} {Q : cp_QT} {t u r x n s m : Nat}
/-! the tape -/
def fdC (I : cp_I) (τ : Nat) (w : Nat → Int32) (k : Nat) : cp_I := fun c j => if c = 0 ∧ j = 1 then nI (τ + k) else if c = 1 ∧ τ ≤ j ∧ j < τ + k then (w (j - τ)).toInt8.toInt32 else I c j
def fT (T : Nat → Nat) (τ : Nat) (w : Nat → Int32) (k : Nat) : Nat := if k < τ then T k else (w (k - τ) &&& 255).toNatClampNeg
theorem fT_l {T : Nat → Nat} {τ k : Nat} {w : Nat → Int32} (h : k < τ) : fT T τ w k = T k := if_pos h
theorem fT_g {T : Nat → Nat} {τ k z : Nat} {w : Nat → Int32} (h : ¬ k < τ) (hz : (w (k - τ) &&& 255).toNatClampNeg = z) : fT T τ w k = z := by
  unfold fT
  rw [if_neg h]
  exact hz
theorem fdC_0 {τ : Nat} {w : Nat → Int32} (h : I 0 1 = nI τ) : fdC I τ w 0 = I := by
  funext c j
  unfold fdC
  by_cases e : c = 0 ∧ j = 1
  · obtain ⟨rfl, rfl⟩ := e
    rw [if_pos ⟨rfl, rfl⟩]
    exact h.symm
  · rw [if_neg e, if_neg (by omega)]
theorem b_8 (y : Int32) : (y.toInt8.toInt32).toInt8.toInt32 = y.toInt8.toInt32 := by
  have e : (y.toInt8.toInt32).toInt8 = y.toInt8 := by simp
  rw [e]
theorem fdC_s {τ k : Nat} {w : Nat → Int32} : cp_u (cp_u (fdC I τ w k) 1 (τ + k) ((w k).toInt8.toInt32)) 0 1 (nI (τ + k + 1)) = fdC I τ w (k + 1) := by
  funext c j
  by_cases e : c = 0 ∧ j = 1
  · obtain ⟨rfl, rfl⟩ := e
    rw [cp_u_at, if_pos ⟨rfl, rfl⟩]
    unfold fdC
    rw [if_pos ⟨rfl, rfl⟩, Nat.add_assoc]
  · rw [cp_u_at, if_neg e]
    by_cases e1 : c = 1 ∧ j = τ + k
    · obtain ⟨rfl, rfl⟩ := e1
      rw [cp_u_at, if_pos ⟨rfl, rfl⟩]
      unfold fdC
      rw [if_neg e, if_pos (by omega), show τ + k - τ = k by omega]
    · rw [cp_u_at, if_neg e1]
      unfold fdC
      rw [if_neg e, if_neg e]
      by_cases e2 : c = 1 ∧ τ ≤ j ∧ j < τ + k
      · rw [if_pos e2, if_pos (by omega)]
      · rw [if_neg e2, if_neg (by omega)]
def shI : Nat → Int32
  | 0 => -8
  | m + 1 => nI (8 * m)
theorem shI_s {m : Nat} (hm : m < 4) : nI (8 * m) + (-8) = shI m := by
  have key : ∀ m : Nat, m < 4 → nI (8 * m) + (-8) = shI m := by decide +kernel
  exact key m hm
theorem lp_CP_put {τ k0 : Nat} {four : Int32} {w : Nat → Int32} (hτ : τ + k0 + 4 ≤ 900) (hw : ∀ j, j < 4 → w (k0 + j) = four >>> (nI (24 - 8 * j) &&& 31)) (hq : Q none SH (fdC I τ w (k0 + 4)) J (PP t u r x)) : ∀ (m j : Nat) (L : cp_Lo), j + m = 4 → L 0 = some (.ref 0) → L 1 = some (.int four) → L 2 = some (.int (shI m)) → RW g false (d + 1) 0 0 m_CP_putBytes 0 0 3 L [] SH (fdC I τ w (k0 + j)) J (PP t u r x) Q := by
  intro m
  induction m with
  | zero =>
    intro j L hj l0 l1 l2
    have e : j = 4 := by omega
    subst e
    have c : shI 0 < 0 := by decide +kernel
    refine cp_run 40 (fun t => t == 3) ck_CP_putBytes ?_
    rw [j_CP_putBytes_3, b_CP_putBytes_3]
    simp only [cp_vc, cp_vs, cp_jm, cp_ent_en, cp_en_int, cp_en_ref, cp_en_ret, cp_en_long, cp_en_nil, cp_s1_at, cp_s2_at, cp_nl_int, cp_nl_ref, cp_nl_long, cp_nl_none, cp_pop_0, cp_pop_s, reduceIte, if_true, if_false, Bool.false_eq_true, Bool.true_eq_false, false_implies, implies_true, forall_const, true_implies, true_and, and_true, and_self, true_or, or_true, false_or, or_false, Value.category, List.length_cons, List.length_nil, Option.toList_some, Option.toList_none, List.cons_append, List.nil_append, List.append_nil, Prod.mk.injEq, Nat.add_zero, Nat.zero_add, Nat.reduceAdd, Nat.reduceSub, Nat.reduceEqDiff, Nat.reduceLeDiff, Nat.reduceLT, Nat.le_refl, beq_self_eq_true, Nat.reduceBEq, ne_eq, not_true_eq_false, not_false_eq_true, Int32.reduceAdd, Int32.reduceSub, Int32.reduceMul, Int32.reduceLE, Int32.reduceLT, Int32.reduceToNatClampNeg, b01_0, b01_1, ne_2_0, ne_3_0, ne_4_0, ne_5_0, ne_6_0, ne_m1_0, ne_m2_0, b01_01, b01_n, lt_m2, lt_m1, le_m2, le_m1, Classical.not_not, j_CP_putBytes_0, b_CP_putBytes_0, j_CP_putBytes_46, b_CP_putBytes_46, an_0, an_1, an_24, cl_1, cl_24, ne_0_1, ne_1_0, pp_0_0, sh_0, sh_1, vi_1, vi_24, l0, l1, l2, c]
    exact hq
  | succ m ih =>
    intro j L hj l0 l1 l2
    have l2' : L 2 = some (.int (nI (8 * m))) := l2
    have c : ¬ nI (8 * m) < 0 := nI_pos (by omega)
    have f1 : fdC I τ w (k0 + j) 0 1 = nI (τ + (k0 + j)) := by unfold fdC; rw [if_pos ⟨rfl, rfl⟩]
    have c2 : ((900 : Int32) ≤ nI (τ + (k0 + j))) = False := (leN (a := 900) (by omega) (by omega)).trans (eq_false (by omega))
    have v1 := vin (show τ + (k0 + j) < 900 by omega) (by omega)
    have v2 := ncl (show τ + (k0 + j) < 1000 by omega)
    have hwj : four >>> (nI (8 * m) &&& 31) = w (k0 + j) := by rw [hw j (by omega), show 24 - 8 * j = 8 * m by omega]
    have es := fdC_s (I := I) (τ := τ) (k := k0 + j) (w := w)
    have sm := shI_s (m := m) (by omega)
    have u1 : ∀ v, cp_u (fdC I τ w (k0 + j)) 1 (τ + (k0 + j)) v 0 1 = nI (τ + (k0 + j)) := fun v => by rw [cp_u_at, if_neg (by omega)]; exact f1
    refine cp_run 60 (fun t => t == 3) ck_CP_putBytes ?_
    rw [j_CP_putBytes_3, b_CP_putBytes_3]
    simp only [cp_vc, cp_vs, cp_jm, cp_ent_en, cp_en_int, cp_en_ref, cp_en_ret, cp_en_long, cp_en_nil, cp_s1_at, cp_s2_at, cp_nl_int, cp_nl_ref, cp_nl_long, cp_nl_none, cp_pop_0, cp_pop_s, reduceIte, if_true, if_false, Bool.false_eq_true, Bool.true_eq_false, false_implies, implies_true, forall_const, true_implies, true_and, and_true, and_self, true_or, or_true, false_or, or_false, Value.category, List.length_cons, List.length_nil, Option.toList_some, Option.toList_none, List.cons_append, List.nil_append, List.append_nil, Prod.mk.injEq, Nat.add_zero, Nat.zero_add, Nat.reduceAdd, Nat.reduceSub, Nat.reduceEqDiff, Nat.reduceLeDiff, Nat.reduceLT, Nat.le_refl, beq_self_eq_true, Nat.reduceBEq, ne_eq, not_true_eq_false, not_false_eq_true, Int32.reduceAdd, Int32.reduceSub, Int32.reduceMul, Int32.reduceLE, Int32.reduceLT, Int32.reduceToNatClampNeg, b01_0, b01_1, ne_2_0, ne_3_0, ne_4_0, ne_5_0, ne_6_0, ne_m1_0, ne_m2_0, b01_01, b01_n, lt_m2, lt_m1, le_m2, le_m1, Classical.not_not, j_CP_putBytes_0, b_CP_putBytes_0, j_CP_putBytes_46, b_CP_putBytes_46, an_0, an_1, an_24, cl_1, cl_24, ne_0_1, ne_1_0, pp_0_0, sh_0, sh_1, vi_1, vi_24, l0, l1, l2', c, f1, c2, v1, v2, hwj, b_8, u1, nI_1, es, sm]
    refine ih (j + 1) _ (by omega) ?_ ?_ ?_
    all_goals simp [cp_s1_at, cp_nl_int, cp_nl_ref, l0, l1]
theorem c_CP_put {τ k0 : Nat} {four : Int32} {w : Nat → Int32} (hτ : τ + k0 + 4 ≤ 900) (hw : ∀ j, j < 4 → w (k0 + j) = four >>> (nI (24 - 8 * j) &&& 31)) (hq : Q none SH (fdC I τ w (k0 + 4)) J (PP t u r x)) : MW g false (d + 1) 0 0 m_CP_putBytes [.ref 0, .int four] SH (fdC I τ w k0) J (PP t u r x) Q := by
  refine MW.of ok_CP_putBytes (Nat.le_of_ble_eq_true rfl) ?_
  refine cp_run 20 (fun t => t == 3) ck_CP_putBytes ?_
  simp only [cp_vc, cp_vs, cp_jm, cp_ent_en, cp_en_int, cp_en_ref, cp_en_ret, cp_en_long, cp_en_nil, cp_s1_at, cp_s2_at, cp_nl_int, cp_nl_ref, cp_nl_long, cp_nl_none, cp_pop_0, cp_pop_s, reduceIte, if_true, if_false, Bool.false_eq_true, Bool.true_eq_false, false_implies, implies_true, forall_const, true_implies, true_and, and_true, and_self, true_or, or_true, false_or, or_false, Value.category, List.length_cons, List.length_nil, Option.toList_some, Option.toList_none, List.cons_append, List.nil_append, List.append_nil, Prod.mk.injEq, Nat.add_zero, Nat.zero_add, Nat.reduceAdd, Nat.reduceSub, Nat.reduceEqDiff, Nat.reduceLeDiff, Nat.reduceLT, Nat.le_refl, beq_self_eq_true, Nat.reduceBEq, ne_eq, not_true_eq_false, not_false_eq_true, Int32.reduceAdd, Int32.reduceSub, Int32.reduceMul, Int32.reduceLE, Int32.reduceLT, Int32.reduceToNatClampNeg, b01_0, b01_1, ne_2_0, ne_3_0, ne_4_0, ne_5_0, ne_6_0, ne_m1_0, ne_m2_0, b01_01, b01_n, lt_m2, lt_m1, le_m2, le_m1, Classical.not_not, j_CP_putBytes_0, b_CP_putBytes_0, j_CP_putBytes_3, b_CP_putBytes_3, j_CP_putBytes_46, b_CP_putBytes_46, an_0, an_1, an_24, cl_1, cl_24, ne_0_1, ne_1_0, pp_0_0, sh_0, sh_1, vi_1, vi_24]
  refine lp_CP_put hτ hw hq 4 0 _ (by omega) ?_ ?_ ?_
  · simp [cp_s1_at, cp_ent_en, cp_en_int, cp_en_ref, cp_nl_int, cp_nl_ref]
  · simp [cp_s1_at, cp_ent_en, cp_en_int, cp_en_ref, cp_nl_int, cp_nl_ref]
  · rw [show shI 4 = 24 by decide +kernel]
    simp [cp_s1_at, cp_ent_en, cp_en_int, cp_en_ref, cp_nl_int, cp_nl_ref]
theorem iv_fx (h : Iv0 I t u n s m) (kt : ∀ k, k ≤ 9 → ∀ j, N (t + k) j = I (t + k) j) (kc : ∀ a j, a = 15 ∨ (26 ≤ a ∧ a ≤ 36) ∨ a = 47 ∨ (49 ≤ a ∧ a ≤ 51) ∨ a = 55 → N a j = I a j) (f14 : N 44 14 = I 44 14) (f20 : N 44 20 = I 44 20) (f21 : N 44 21 = I 44 21) (hT : ivT N) (h3 : N 0 3 = N 44 9) : Iv0 N t u n s m := by
  have w15 : N 15 = I 15 := funext fun j => kc 15 j (by omega)
  have w26 : N 26 = I 26 := funext fun j => kc 26 j (by omega)
  have w27 : N 27 = I 27 := funext fun j => kc 27 j (by omega)
  have w28 : N 28 = I 28 := funext fun j => kc 28 j (by omega)
  have w29 : N 29 = I 29 := funext fun j => kc 29 j (by omega)
  have w30 : N 30 = I 30 := funext fun j => kc 30 j (by omega)
  have w31 : N 31 = I 31 := funext fun j => kc 31 j (by omega)
  have w32 : N 32 = I 32 := funext fun j => kc 32 j (by omega)
  have w33 : N 33 = I 33 := funext fun j => kc 33 j (by omega)
  have w34 : N 34 = I 34 := funext fun j => kc 34 j (by omega)
  have w35 : N 35 = I 35 := funext fun j => kc 35 j (by omega)
  have w36 : N 36 = I 36 := funext fun j => kc 36 j (by omega)
  have w47 : N 47 = I 47 := funext fun j => kc 47 j (by omega)
  have w49 : N 49 = I 49 := funext fun j => kc 49 j (by omega)
  have w50 : N 50 = I 50 := funext fun j => kc 50 j (by omega)
  have w51 : N 51 = I 51 := funext fun j => kc 51 j (by omega)
  have w55 : N 55 = I 55 := funext fun j => kc 55 j (by omega)
  have tt : ∀ k, k ≤ 9 → N (t + k) = I (t + k) := fun k hk => funext fun j => kt k hk j
  have t0 : N t = I t := tt 0 (by omega)
  have ec : ∀ m', ctm N t m' = ctm I t m' := fun m' => by unfold ctm; rw [tt 4 (by omega)]
  have er : ∀ ρ o s' m' ps, N ρ = I ρ → (rowR N t ρ o s' m' ps = rowR I t ρ o s' m' ps) := fun ρ o s' m' ps e => by unfold rowR; rw [ec, e]
  have ei : ∀ ρ o a b c, N ρ = I ρ → (rowI N t n ρ o a b c = rowI I t n ρ o a b c) := fun ρ o a b c e => by
    unfold rowI
    simp only [er _ _ _ _ _ e]
  have en : cn N t = cn I t := by funext b; unfold cn; rw [tt 2 (by omega), tt 3 (by omega)]
  have eb : bOK N t n m = bOK I t n m := by
    unfold bOK bUp cK cF
    rw [w26, w27, w28, w29, ec, en, t0]
  have ef : cFr (N 47) N t = cFr (I 47) I t := by
    unfold cFr
    rw [w47, t0, tt 2 (by omega), tt 3 (by omega), tt 4 (by omega), tt 5 (by omega), tt 6 (by omega), tt 7 (by omega), tt 8 (by omega), tt 9 (by omega)]
  obtain ⟨hB, hH, -, hZ, hu, -⟩ := h
  refine ⟨?_, ?_, hT, ?_, hu, h3⟩
  · unfold ivB
    rw [ef, w47, f14, w15, er _ _ _ _ _ w49, eb, w55]
    exact hB
  · unfold ivH
    simp only [ei _ _ _ _ _ w50, ei _ _ _ _ _ w51, w30, w31, w32, w33, w34, w35, w36, f20, f21]
    exact hH
  · unfold ivZ
    rw [w47, w15, w30]
    exact hZ
theorem fdR_o {τ k a j : Nat} {w : Nat → Int32} (h : ¬ (a = 44 ∧ j = 2)) (h' : ¬ a = 45) : fdR I τ w k a j = I a j := by
  unfold fdR
  rw [if_neg h, if_neg (by omega)]
theorem fdC_o {τ k a j : Nat} {w : Nat → Int32} (h : ¬ (a = 0 ∧ j = 1)) (h' : ¬ a = 1) : fdC I τ w k a j = I a j := by
  unfold fdC
  rw [if_neg h, if_neg (by omega)]
theorem byte_and (v : Int32) : ∃ c : Nat, c < 256 ∧ v &&& 255 = nI c ∧ v.toInt8.toInt32 = b8 c := by
  obtain ⟨c, c1, c2⟩ := pk_andE v (m := 255) 8 (by decide)
  refine ⟨c, c1, c2, ?_⟩
  unfold b8
  rw [← c2]
  have e : (v &&& 255).toInt8 = v.toInt8 := by
    rw [Int32.toInt8_and]
    apply Int8.toBitVec_inj.1
    rw [Int8.toBitVec_and, show (Int32.toInt8 255).toBitVec = BitVec.allOnes 8 by decide, BitVec.and_allOnes]
  rw [e]
theorem pr_feed {a b c e f : Int32} (h : Iv I t u) : PR g d m_CP_feed m_Mod_feed [.int a, .int b, .int c, .int e, .int f] I J t u r x := by
  obtain ⟨⟨n, s, m, h0⟩, g2, g4⟩ := id h
  have ht := h0.1.1
  obtain ⟨τ, T, hτ, t2, t1, hT⟩ := h0.2.2.1
  have e20 : nI τ + 20 = nI (τ + 20) := nI_add τ 20
  have ec : (nI (τ + 20) ≤ 900) = (τ + 20 ≤ 900) := leN (b := 900) (by omega) (by omega)
  unfold PR
  refine MW.of ok_CP_feed (Nat.le_of_ble_eq_true rfl) ?_
  by_cases q : τ + 20 ≤ 900
  · have w0 : ∀ j, j < 4 → fdb a b c e f (0 + j) = a >>> (nI (24 - 8 * j) &&& 31) := fun j hj => by
      unfold fdb fdw
      rw [if_pos (by omega), show (0 + j) % 4 = j by omega]
    have w4 : ∀ j, j < 4 → fdb a b c e f (4 + j) = b >>> (nI (24 - 8 * j) &&& 31) := fun j hj => by
      unfold fdb fdw
      rw [if_neg (by omega), if_pos (by omega), show (4 + j) % 4 = j by omega]
    have w8 : ∀ j, j < 4 → fdb a b c e f (8 + j) = c >>> (nI (24 - 8 * j) &&& 31) := fun j hj => by
      unfold fdb fdw
      rw [if_neg (by omega), if_neg (by omega), if_pos (by omega), show (8 + j) % 4 = j by omega]
    have w12 : ∀ j, j < 4 → fdb a b c e f (12 + j) = e >>> (nI (24 - 8 * j) &&& 31) := fun j hj => by
      unfold fdb fdw
      rw [if_neg (by omega), if_neg (by omega), if_neg (by omega), if_pos (by omega), show (12 + j) % 4 = j by omega]
    have w16 : ∀ j, j < 4 → fdb a b c e f (16 + j) = f >>> (nI (24 - 8 * j) &&& 31) := fun j hj => by
      unfold fdb fdw
      rw [if_neg (by omega), if_neg (by omega), if_neg (by omega), if_neg (by omega), show (16 + j) % 4 = j by omega]
    refine cp_run 60 (fun _ => false) ck_CP_feed ?_
    simp only [cp_vc, cp_vs, cp_jm, cp_ent_en, cp_en_int, cp_en_ref, cp_en_ret, cp_en_long, cp_en_nil, cp_s1_at, cp_s2_at, cp_nl_int, cp_nl_ref, cp_nl_long, cp_nl_none, cp_pop_0, cp_pop_s, reduceIte, if_true, if_false, Bool.false_eq_true, Bool.true_eq_false, false_implies, implies_true, forall_const, true_implies, true_and, and_true, and_self, true_or, or_true, false_or, or_false, Value.category, List.length_cons, List.length_nil, Option.toList_some, Option.toList_none, List.cons_append, List.nil_append, List.append_nil, Prod.mk.injEq, Nat.add_zero, Nat.zero_add, Nat.reduceAdd, Nat.reduceSub, Nat.reduceEqDiff, Nat.reduceLeDiff, Nat.reduceLT, Nat.le_refl, beq_self_eq_true, Nat.reduceBEq, ne_eq, not_true_eq_false, not_false_eq_true, Int32.reduceAdd, Int32.reduceSub, Int32.reduceMul, Int32.reduceLE, Int32.reduceLT, Int32.reduceToNatClampNeg, b01_0, b01_1, ne_2_0, ne_3_0, ne_4_0, ne_5_0, ne_6_0, ne_m1_0, ne_m2_0, b01_01, b01_n, lt_m2, lt_m1, le_m2, le_m1, Classical.not_not, j_CP_feed_0, b_CP_feed_0, j_CP_feed_15, b_CP_feed_15, an_0, an_1, an_20, cl_20, ne_0_1, ne_0_m1, ne_1_0, ne_1_m1, ne_m1_0, ne_m1_1, sh_0, vi_20, t1, e20, ec, q]
    rw [← fdC_0 (w := fdb a b c e f) t1]
    refine c_CP_put (by omega) w0 ?_
    simp only [cp_kk, cp_vc, cp_vs, cp_jm, cp_ent_en, cp_en_int, cp_en_ref, cp_en_ret, cp_en_long, cp_en_nil, cp_s1_at, cp_s2_at, cp_nl_int, cp_nl_ref, cp_nl_long, cp_nl_none, cp_pop_0, cp_pop_s, reduceIte, if_true, if_false, Bool.false_eq_true, Bool.true_eq_false, false_implies, implies_true, forall_const, true_implies, true_and, and_true, and_self, true_or, or_true, false_or, or_false, Value.category, List.length_cons, List.length_nil, Option.toList_some, Option.toList_none, List.cons_append, List.nil_append, List.append_nil, Prod.mk.injEq, Nat.add_zero, Nat.zero_add, Nat.reduceAdd, Nat.reduceSub, Nat.reduceEqDiff, Nat.reduceLeDiff, Nat.reduceLT, Nat.le_refl, beq_self_eq_true, Nat.reduceBEq, ne_eq, not_true_eq_false, not_false_eq_true, Int32.reduceAdd, Int32.reduceSub, Int32.reduceMul, Int32.reduceLE, Int32.reduceLT, Int32.reduceToNatClampNeg, b01_0, b01_1, ne_2_0, ne_3_0, ne_4_0, ne_5_0, ne_6_0, ne_m1_0, ne_m2_0, b01_01, b01_n, lt_m2, lt_m1, le_m2, le_m1, Classical.not_not, Bool.or_false, Bool.false_or, Bool.true_or, Bool.or_true, j_CP_feed_0, b_CP_feed_0, j_CP_feed_15, b_CP_feed_15, an_0, an_1, an_20, cl_20, ne_0_1, ne_0_m1, ne_1_0, ne_1_m1, ne_m1_0, ne_m1_1, sh_0, vi_20]
    refine c_CP_put (by omega) w4 ?_
    simp only [cp_kk, cp_vc, cp_vs, cp_jm, cp_ent_en, cp_en_int, cp_en_ref, cp_en_ret, cp_en_long, cp_en_nil, cp_s1_at, cp_s2_at, cp_nl_int, cp_nl_ref, cp_nl_long, cp_nl_none, cp_pop_0, cp_pop_s, reduceIte, if_true, if_false, Bool.false_eq_true, Bool.true_eq_false, false_implies, implies_true, forall_const, true_implies, true_and, and_true, and_self, true_or, or_true, false_or, or_false, Value.category, List.length_cons, List.length_nil, Option.toList_some, Option.toList_none, List.cons_append, List.nil_append, List.append_nil, Prod.mk.injEq, Nat.add_zero, Nat.zero_add, Nat.reduceAdd, Nat.reduceSub, Nat.reduceEqDiff, Nat.reduceLeDiff, Nat.reduceLT, Nat.le_refl, beq_self_eq_true, Nat.reduceBEq, ne_eq, not_true_eq_false, not_false_eq_true, Int32.reduceAdd, Int32.reduceSub, Int32.reduceMul, Int32.reduceLE, Int32.reduceLT, Int32.reduceToNatClampNeg, b01_0, b01_1, ne_2_0, ne_3_0, ne_4_0, ne_5_0, ne_6_0, ne_m1_0, ne_m2_0, b01_01, b01_n, lt_m2, lt_m1, le_m2, le_m1, Classical.not_not, Bool.or_false, Bool.false_or, Bool.true_or, Bool.or_true, j_CP_feed_0, b_CP_feed_0, j_CP_feed_15, b_CP_feed_15, an_0, an_1, an_20, cl_20, ne_0_1, ne_0_m1, ne_1_0, ne_1_m1, ne_m1_0, ne_m1_1, sh_0, vi_20]
    refine c_CP_put (by omega) w8 ?_
    simp only [cp_kk, cp_vc, cp_vs, cp_jm, cp_ent_en, cp_en_int, cp_en_ref, cp_en_ret, cp_en_long, cp_en_nil, cp_s1_at, cp_s2_at, cp_nl_int, cp_nl_ref, cp_nl_long, cp_nl_none, cp_pop_0, cp_pop_s, reduceIte, if_true, if_false, Bool.false_eq_true, Bool.true_eq_false, false_implies, implies_true, forall_const, true_implies, true_and, and_true, and_self, true_or, or_true, false_or, or_false, Value.category, List.length_cons, List.length_nil, Option.toList_some, Option.toList_none, List.cons_append, List.nil_append, List.append_nil, Prod.mk.injEq, Nat.add_zero, Nat.zero_add, Nat.reduceAdd, Nat.reduceSub, Nat.reduceEqDiff, Nat.reduceLeDiff, Nat.reduceLT, Nat.le_refl, beq_self_eq_true, Nat.reduceBEq, ne_eq, not_true_eq_false, not_false_eq_true, Int32.reduceAdd, Int32.reduceSub, Int32.reduceMul, Int32.reduceLE, Int32.reduceLT, Int32.reduceToNatClampNeg, b01_0, b01_1, ne_2_0, ne_3_0, ne_4_0, ne_5_0, ne_6_0, ne_m1_0, ne_m2_0, b01_01, b01_n, lt_m2, lt_m1, le_m2, le_m1, Classical.not_not, Bool.or_false, Bool.false_or, Bool.true_or, Bool.or_true, j_CP_feed_0, b_CP_feed_0, j_CP_feed_15, b_CP_feed_15, an_0, an_1, an_20, cl_20, ne_0_1, ne_0_m1, ne_1_0, ne_1_m1, ne_m1_0, ne_m1_1, sh_0, vi_20]
    refine c_CP_put (by omega) w12 ?_
    simp only [cp_kk, cp_vc, cp_vs, cp_jm, cp_ent_en, cp_en_int, cp_en_ref, cp_en_ret, cp_en_long, cp_en_nil, cp_s1_at, cp_s2_at, cp_nl_int, cp_nl_ref, cp_nl_long, cp_nl_none, cp_pop_0, cp_pop_s, reduceIte, if_true, if_false, Bool.false_eq_true, Bool.true_eq_false, false_implies, implies_true, forall_const, true_implies, true_and, and_true, and_self, true_or, or_true, false_or, or_false, Value.category, List.length_cons, List.length_nil, Option.toList_some, Option.toList_none, List.cons_append, List.nil_append, List.append_nil, Prod.mk.injEq, Nat.add_zero, Nat.zero_add, Nat.reduceAdd, Nat.reduceSub, Nat.reduceEqDiff, Nat.reduceLeDiff, Nat.reduceLT, Nat.le_refl, beq_self_eq_true, Nat.reduceBEq, ne_eq, not_true_eq_false, not_false_eq_true, Int32.reduceAdd, Int32.reduceSub, Int32.reduceMul, Int32.reduceLE, Int32.reduceLT, Int32.reduceToNatClampNeg, b01_0, b01_1, ne_2_0, ne_3_0, ne_4_0, ne_5_0, ne_6_0, ne_m1_0, ne_m2_0, b01_01, b01_n, lt_m2, lt_m1, le_m2, le_m1, Classical.not_not, Bool.or_false, Bool.false_or, Bool.true_or, Bool.or_true, j_CP_feed_0, b_CP_feed_0, j_CP_feed_15, b_CP_feed_15, an_0, an_1, an_20, cl_20, ne_0_1, ne_0_m1, ne_1_0, ne_1_m1, ne_m1_0, ne_m1_1, sh_0, vi_20]
    refine c_CP_put (by omega) w16 ?_
    have f1 : fdC I τ (fdb a b c e f) 20 0 1 = nI (τ + 20) := by unfold fdC; rw [if_pos ⟨rfl, rfl⟩]
    simp only [cp_kk, cp_vc, cp_vs, cp_jm, cp_ent_en, cp_en_int, cp_en_ref, cp_en_ret, cp_en_long, cp_en_nil, cp_s1_at, cp_s2_at, cp_nl_int, cp_nl_ref, cp_nl_long, cp_nl_none, cp_pop_0, cp_pop_s, reduceIte, if_true, if_false, Bool.false_eq_true, Bool.true_eq_false, false_implies, implies_true, forall_const, true_implies, true_and, and_true, and_self, true_or, or_true, false_or, or_false, Value.category, List.length_cons, List.length_nil, Option.toList_some, Option.toList_none, List.cons_append, List.nil_append, List.append_nil, Prod.mk.injEq, Nat.add_zero, Nat.zero_add, Nat.reduceAdd, Nat.reduceSub, Nat.reduceEqDiff, Nat.reduceLeDiff, Nat.reduceLT, Nat.le_refl, beq_self_eq_true, Nat.reduceBEq, ne_eq, not_true_eq_false, not_false_eq_true, Int32.reduceAdd, Int32.reduceSub, Int32.reduceMul, Int32.reduceLE, Int32.reduceLT, Int32.reduceToNatClampNeg, b01_0, b01_1, ne_2_0, ne_3_0, ne_4_0, ne_5_0, ne_6_0, ne_m1_0, ne_m2_0, b01_01, b01_n, lt_m2, lt_m1, le_m2, le_m1, Classical.not_not, Bool.or_false, Bool.false_or, Bool.true_or, Bool.or_true, j_CP_feed_0, b_CP_feed_0, j_CP_feed_15, b_CP_feed_15, an_0, an_1, an_20, cl_20, ne_0_1, ne_0_m1, ne_1_0, ne_1_m1, ne_m1_0, ne_m1_1, sh_0, vi_20, f1]
    refine mid_i ?_
    have h44 : fdC I τ (fdb a b c e f) 20 44 2 = nI τ := by rw [fdC_o (by omega) (by omega)]; exact t2
    refine c_Mod_feed hτ h44 ?_ (fun z => absurd q z)
    intro _
    refine fin_i rfl ?_
    have No : ∀ a' j, ¬ (a' = 44 ∧ (j = 2 ∨ j = 0)) → ¬ a' = 45 → ¬ (a' = 0 ∧ j = 1) → ¬ a' = 1 → fdR (cp_u (fdC I τ (fdb a b c e f) 20) 44 0 0) τ (fdb a b c e f) 20 a' j = I a' j := fun a' j h1 h2 h3 h4 => by
      rw [fdR_o (by omega) h2, cp_u_at, if_neg (by omega), fdC_o h3 h4]
    have hN : ivT (fdR (cp_u (fdC I τ (fdb a b c e f) 20) 44 0 0) τ (fdb a b c e f) 20) := by
      refine ⟨τ + 20, fT T τ (fdb a b c e f), q, ?_, ?_, fun k hk => ?_⟩
      · unfold fdR
        rw [if_pos ⟨rfl, rfl⟩]
      · rw [fdR_o (by omega) (by omega), cp_u_at, if_neg (by omega)]
        exact f1
      · rw [fdR_o (a := 1) (by omega) (by omega), cp_u_at, if_neg (by omega)]
        by_cases hk' : k < τ
        · obtain ⟨k1, k2, k3⟩ := hT k hk'
          rw [fT_l hk']
          refine ⟨?_, k2, ?_⟩
          · unfold fdR
            rw [if_neg (by omega), if_neg (by omega), cp_u_at, if_neg (by omega), fdC_o (by omega) (by omega)]
            exact k1
          · unfold fdC
            rw [if_neg (by omega), if_neg (by omega)]
            exact k3
        · obtain ⟨z, z1, z2, z3⟩ := byte_and (fdb a b c e f (k - τ))
          rw [fT_g hk' (show (fdb a b c e f (k - τ) &&& 255).toNatClampNeg = z by rw [z2]; exact ncl (by omega))]
          refine ⟨?_, z1, ?_⟩
          · unfold fdR
            rw [if_neg (by omega), if_pos (by omega)]
            exact z2
          · unfold fdC
            rw [if_neg (by omega), if_pos (by omega)]
            exact z3
    have h0' := iv_fx h0 (N := fdR (cp_u (fdC I τ (fdb a b c e f) 20) 44 0 0) τ (fdb a b c e f) 20) (fun k hk j => by
      have := wa_ne (wa_t ht hk)
      exact No _ j (by omega) (by rcases ht with rfl | rfl <;> omega) (by omega) (by rcases ht with rfl | rfl <;> omega)) (fun a' j ha => No a' j (by omega) (by omega) (by omega) (by omega)) (No 44 14 (by omega) (by omega) (by omega) (by omega)) (No 44 20 (by omega) (by omega) (by omega) (by omega)) (No 44 21 (by omega) (by omega) (by omega) (by omega)) hN (by rw [No 0 3 (by omega) (by omega) (by omega) (by omega), No 44 9 (by omega) (by omega) (by omega) (by omega)]; exact h0.2.2.2.2.2)
    refine ⟨⟨n, s, m, h0'⟩, ?_, fun z => ?_⟩
    · rw [No 0 2 (by omega) (by omega) (by omega) (by omega), No 44 11 (by omega) (by omega) (by omega) (by omega)]
      exact g2
    · rw [No 0 2 (by omega) (by omega) (by omega) (by omega)] at z
      rw [No 0 4 (by omega) (by omega) (by omega) (by omega), No 44 10 (by omega) (by omega) (by omega) (by omega)]
      exact g4 z
  · refine cp_run 60 (fun _ => false) ck_CP_feed ?_
    simp only [cp_vc, cp_vs, cp_jm, cp_ent_en, cp_en_int, cp_en_ref, cp_en_ret, cp_en_long, cp_en_nil, cp_s1_at, cp_s2_at, cp_nl_int, cp_nl_ref, cp_nl_long, cp_nl_none, cp_pop_0, cp_pop_s, reduceIte, if_true, if_false, Bool.false_eq_true, Bool.true_eq_false, false_implies, implies_true, forall_const, true_implies, true_and, and_true, and_self, true_or, or_true, false_or, or_false, Value.category, List.length_cons, List.length_nil, Option.toList_some, Option.toList_none, List.cons_append, List.nil_append, List.append_nil, Prod.mk.injEq, Nat.add_zero, Nat.zero_add, Nat.reduceAdd, Nat.reduceSub, Nat.reduceEqDiff, Nat.reduceLeDiff, Nat.reduceLT, Nat.le_refl, beq_self_eq_true, Nat.reduceBEq, ne_eq, not_true_eq_false, not_false_eq_true, Int32.reduceAdd, Int32.reduceSub, Int32.reduceMul, Int32.reduceLE, Int32.reduceLT, Int32.reduceToNatClampNeg, b01_0, b01_1, ne_2_0, ne_3_0, ne_4_0, ne_5_0, ne_6_0, ne_m1_0, ne_m2_0, b01_01, b01_n, lt_m2, lt_m1, le_m2, le_m1, Classical.not_not, j_CP_feed_0, b_CP_feed_0, j_CP_feed_15, b_CP_feed_15, an_0, an_1, an_20, cl_20, ne_0_1, ne_0_m1, ne_1_0, ne_1_m1, ne_m1_0, ne_m1_1, sh_0, vi_20, t1, e20, ec, q]
    refine mid_i ?_
    refine c_Mod_feed hτ t2 (fun z => absurd z q) ?_
    intro _
    exact fin_i rfl (iv_same h (kp_00 kp_r 0) (by simp [cp_u_at]) (by simp [cp_u_at]))
end Feed
