section Intro2
variable {g : cp_G} {d : Nat} {sh : cp_H} {I : cp_I} {J : cp_J} {P : cp_P} {Q : cp_QT} {t u r x n : Nat}
def imk (n : Nat) (I : cp_I) (kk : Nat → Nat) (v : Int32) : cp_I := fun a j => if a = 41 ∧ j < n then nI (kk j) else if a = 40 ∧ j = 1 then v else I a j
theorem imk_o {kk : Nat → Nat} {v : Int32} {a : Nat} (h : a ≠ 41) (h' : a ≠ 40) (j : Nat) : imk n I kk v a j = I a j := by
  unfold imk
  rw [if_neg (fun q => h q.1), if_neg (fun q => h' q.1)]
theorem imk_r {kk : Nat → Nat} {v : Int32} {j : Nat} (h : j < n) : imk n I kk v 41 j = nI (kk j) := by
  unfold imk
  rw [if_pos ⟨rfl, h⟩]
theorem imk_u {kk : Nat → Nat} {v : Int32} {k w : Nat} (h : k < n) : cp_u (imk n I kk v) 41 k (nI w) = imk n I (updN kk k w) v := by
  funext a j
  unfold cp_u imk updN
  by_cases h1 : a = 41 ∧ j = k
  · rw [if_pos h1, if_pos (by omega), if_pos h1.2]
  · rw [if_neg h1]
    by_cases h2 : a = 41 ∧ j < n
    · rw [if_pos h2, if_pos h2, if_neg (by omega)]
    · rw [if_neg h2, if_neg h2]
theorem imk_f {kk : Nat → Nat} {v w : Int32} : cp_u (imk n I kk v) 40 1 w = imk n I kk w := by
  funext a j
  unfold cp_u imk
  by_cases h1 : a = 40 ∧ j = 1
  · rw [if_pos h1, if_neg (by omega), if_pos h1]
  · rw [if_neg h1, if_neg h1, if_neg h1]
theorem tk_ne {k c : Nat} (ht : tk t) (hk : k ≤ 9) (hc : c = 40 ∨ c = 41) : t + k ≠ c := by rcases ht with rfl | rfl <;> omega
def tgl (kk : Nat → Nat) (a b : Nat) : Nat → Nat := updN (updN kk a (kk a ^^^ 2 ^ b)) b (kk b ^^^ 2 ^ a)
theorem tgl_2 {kk : Nat → Nat} {a b : Nat} (h : a ≠ b) : tgl (tgl kk a b) a b = kk := by
  funext j
  have x1 : ∀ x y : Nat, x ^^^ y ^^^ y = x := fun x y => by rw [Nat.xor_assoc, Nat.xor_self, Nat.xor_zero]
  unfold tgl updN
  by_cases h1 : j = b
  · subst h1
    simp [Ne.symm h, h, x1]
  · by_cases h2 : j = a
    · subst h2
      simp [h, x1]
    · simp [h1, h2]
theorem tgl_lt {kk : Nat → Nat} {a b : Nat} (ha : a < 6) (hb : b < 6) (h : ∀ j, j < n → kk j < 64) (han : a < n) (hbn : b < n) : ∀ j, j < n → tgl kk a b j < 64 := by
  intro j hj
  unfold tgl updN
  split
  · exact xor_lt64 (h b hbn) (pow_lt64 ha)
  · split
    · exact xor_lt64 (h a han) (pow_lt64 hb)
    · exact h j hj
theorem c_Intro_toggle {kk : Nat → Nat} {v : Int32} {a b : Nat} (hn6 : n ≤ 6) (ha : a < n) (hb : b < n) (hab : a ≠ b) (hk : ∀ j, j < n → kk j < 64) (h : Q none SH (imk n I (tgl kk a b) v) J (PP t u r x)) : MW g false (d + 1) 0 0 m_Intro_toggle [.ref 40, .int (nI a), .int (nI b)] SH (imk n I kk v) J (PP t u r x) Q := by
  have e1 := imk_r (I := I) (kk := kk) (v := v) ha
  have e2 : imk n I (updN kk a (kk a ^^^ 2 ^ b)) v 41 b = nI (kk b) := by
    rw [imk_r hb]
    unfold updN
    rw [if_neg (Ne.symm hab)]
  refine MW.of ok_Intro_toggle (Nat.le_of_ble_eq_true rfl) ?_
  refine cp_run 40 (fun _ => false) ck_Intro_toggle ?_
  simp only [cp_vc, cp_vs, cp_jm, cp_ent_en, cp_en_int, cp_en_ref, cp_en_ret, cp_en_long, cp_en_nil, cp_s1_at, cp_s2_at, cp_nl_int, cp_nl_ref, cp_nl_long, cp_nl_none, cp_pop_0, cp_pop_s, reduceIte, if_true, if_false, Bool.false_eq_true, Bool.true_eq_false, false_implies, implies_true, forall_const, true_implies, true_and, and_true, and_self, true_or, or_true, false_or, or_false, Value.category, List.length_cons, List.length_nil, Option.toList_some, Option.toList_none, List.cons_append, List.nil_append, List.append_nil, Prod.mk.injEq, Nat.add_zero, Nat.zero_add, Nat.reduceAdd, Nat.reduceSub, Nat.reduceEqDiff, Nat.reduceLeDiff, Nat.reduceLT, Nat.le_refl, beq_self_eq_true, Nat.reduceBEq, ne_eq, not_true_eq_false, not_false_eq_true, Int32.reduceAdd, Int32.reduceSub, Int32.reduceMul, Int32.reduceLE, Int32.reduceLT, Int32.reduceToNatClampNeg, b01_0, b01_1, ne_2_0, ne_3_0, ne_4_0, ne_5_0, ne_6_0, ne_m1_0, ne_m2_0, b01_01, b01_n, lt_m2, lt_m1, le_m2, le_m1, Classical.not_not, j_Intro_toggle_0, b_Intro_toggle_0, an_0, an_1, cl_1, ne_0_1, ne_1_0, pp_40_0, sh_40, sh_41, vi_1, vin (show a < 6 by omega) (by omega), ncl (show a < 1000 by omega), vin (show b < 6 by omega) (by omega), ncl (show b < 1000 by omega), e1, sh1 (show a < 8 by omega), sh1 (show b < 8 by omega), xor_nI (hk a ha) (pow_lt64 (show b < 6 by omega)), xor_nI (hk b hb) (pow_lt64 (show a < 6 by omega)), imk_u ha, imk_u hb, e2]
  exact h
theorem c_Intro_canBe {kk F : Nat → Nat} {v : Int32} {a b : Nat} (hn6 : n ≤ 6) (ha : a < n) (hb : b < n) (hk : ∀ j, j < n → kk j < 64) (hF : ∀ j, j < n → I 27 j = nI (F j) ∧ F j < 64) (h : Q (some (.int (if cmt kk F a b = true then 1 else 0))) SH (imk n I kk v) J (PP t u r x)) : MW g false (d + 1) 0 0 m_Intro_canBeIntroduced [.ref 40, .ref 15, .int (nI a), .int (nI b)] SH (imk n I kk v) J (PP t u r x) Q := by
  have e1 := imk_r (I := I) (kk := kk) (v := v) ha
  have e2 := imk_r (I := I) (kk := kk) (v := v) hb
  have e3 : imk n I kk v 27 a = nI (F a) := by rw [imk_o (by omega) (by omega)]; exact (hF a ha).1
  have hFa := (hF a ha).2
  have hka := hk a ha
  unfold cmt at h
  refine MW.of ok_Intro_canBeIntroduced (Nat.le_of_ble_eq_true rfl) ?_
  refine cp_run 60 (fun _ => false) ck_Intro_canBeIntroduced ?_
  simp only [cp_vc, cp_vs, cp_jm, cp_ent_en, cp_en_int, cp_en_ref, cp_en_ret, cp_en_long, cp_en_nil, cp_s1_at, cp_s2_at, cp_nl_int, cp_nl_ref, cp_nl_long, cp_nl_none, cp_pop_0, cp_pop_s, reduceIte, if_true, if_false, Bool.false_eq_true, Bool.true_eq_false, false_implies, implies_true, forall_const, true_implies, true_and, and_true, and_self, true_or, or_true, false_or, or_false, Value.category, List.length_cons, List.length_nil, Option.toList_some, Option.toList_none, List.cons_append, List.nil_append, List.append_nil, Prod.mk.injEq, Nat.add_zero, Nat.zero_add, Nat.reduceAdd, Nat.reduceSub, Nat.reduceEqDiff, Nat.reduceLeDiff, Nat.reduceLT, Nat.le_refl, beq_self_eq_true, Nat.reduceBEq, ne_eq, not_true_eq_false, not_false_eq_true, Int32.reduceAdd, Int32.reduceSub, Int32.reduceMul, Int32.reduceLE, Int32.reduceLT, Int32.reduceToNatClampNeg, b01_0, b01_1, ne_2_0, ne_3_0, ne_4_0, ne_5_0, ne_6_0, ne_m1_0, ne_m2_0, b01_01, b01_n, lt_m2, lt_m1, le_m2, le_m1, Classical.not_not, j_Intro_canBeIntroduced_0, b_Intro_canBeIntroduced_0, j_Intro_canBeIntroduced_40, b_Intro_canBeIntroduced_40, j_Intro_canBeIntroduced_41, b_Intro_canBeIntroduced_41, an_0, an_1, cl_0, cl_1, ne_0_1, ne_1_0, pp_15_5, pp_40_0, sh_15, sh_27, sh_40, sh_41, vi_0, vi_1, sh_15, vin (show a < 6 by omega) (by omega), ncl (show a < 1000 by omega), vin (show b < 6 by omega) (by omega), ncl (show b < 1000 by omega), e1, e2, e3, or_nI hka hFa, hb_0 (or_lt64 hka hFa) (show b < 8 by omega), and_0 hka]
  refine ⟨fun c => ?_, fun c => ⟨fun c2 => ?_, fun c2 => ?_⟩⟩
  · have : (kk a ||| F a).testBit b = true := by
      cases hh : (kk a ||| F a).testBit b with
      | false => exact absurd hh c
      | true => rfl
    simp only [this, Bool.not_true, Bool.false_and, Bool.false_eq_true, if_false] at h
    exact h
  · simp only [c2, decide_true, Bool.not_true, Bool.and_false, Bool.false_eq_true, if_false] at h
    exact h
  · simp only [c, c2, Bool.not_false, decide_false, Bool.and_self, if_true] at h
    exact h
def mx0 (z : Int32) : Int32 := if 0 < z then z else 0
/-- whether just so many introductions more are enough: the first pair -/
def sp_ie (c nd : Int32) (F : Nat → Nat) (set n : Nat) : Nat → (Nat → Nat) → Int32 → Option (Option Nat)
  | 0, _, w => if mx0 (w + nI 0 * (c + 1)) < nd then none else some none
  | m + 1, kk, w => if mx0 (w + nI (m + 1) * (c + 1)) < nd then none else (fiO (fun a => fiO (fun b => if (cmt kk F a b && (sp_ie c nd F set n m (tgl kk a b) (if (set.testBit a && set.testBit b) = true then w + c + 1 else w)).isSome) = true then some (10 * a + b) else none) (n - (a + 1)) (a + 1)) n 0).map some
theorem and1_2 (p q : Int32) : p &&& q &&& 1 = (p &&& 1) &&& (q &&& 1) := by
  apply Int32.toBitVec_inj.1
  simp only [Int32.toBitVec_and]
  apply BitVec.eq_of_getLsbD_eq
  intro i hi
  simp only [BitVec.getLsbD_and]
  cases p.toBitVec.getLsbD i <;> cases q.toBitVec.getLsbD i <;> cases (1 : Int32).toBitVec.getLsbD i <;> rfl
theorem hb_2 {s a b : Nat} (hs : s < 64) (ha : a < 8) (hb : b < 8) : ((nI s >>> (nI a &&& 31)) &&& (nI s >>> (nI b &&& 31)) &&& 1 = 0) = ((s.testBit a && s.testBit b) = false) := by
  rw [and1_2, hb_val hs ha, hb_val hs hb]
  cases s.testBit a <;> cases s.testBit b <;> simp
def ieF (v : Int32) : Option Nat → Int32
  | some p => nI p
  | none => v
set_option maxRecDepth 20000 in
theorem c_Intro_isEnough {F : Nat → Nat} {set : Nat} (hc : cT I t n) (hs : set < 64) (hF : ∀ j, j < n → I 27 j = nI (F j) ∧ F j < 64) : ∀ (m D : Nat) (kk : Nat → Nat) (w v : Int32) (Q : cp_QT), D = d + 2 * m → m ≤ 3 → (∀ j, j < n → kk j < 64) →
    (∀ o, sp_ie (I t 1) (I 29 set) F set n m kk w = some o → Q (some (.int 1)) SH (imk n I kk (ieF v o)) J (PP t u r x)) → (sp_ie (I t 1) (I 29 set) F set n m kk w = none → Q (some (.int 0)) SH (imk n I kk v) J (PP t u r x)) →
    MW g false (D + 2) 0 0 m_Intro_isEnough [.ref 40, .ref 15, .int (nI set), .int w, .int (nI m)] SH (imk n I kk v) J (PP t u r x) Q := by
  obtain ⟨ht, hn6, hn, he⟩ := id hc
  have ct : ∀ kk v j, imk n I kk v t j = I t j := fun kk v j => imk_o (tk_ne (k := 0) ht (by omega) (Or.inr rfl)) (tk_ne (k := 0) ht (by omega) (Or.inl rfl)) j
  have c29 : ∀ kk v j, imk n I kk v 29 j = I 29 j := fun kk v j => imk_o (by omega) (by omega) j
  have hnM : ∀ kk v, imk n I kk v t 4 = nI n := fun kk v => by rw [ct]; exact hn
  have emx : ∀ z : Int32, (if (0 : Int32) < z then z else 0) = mx0 z := fun z => rfl
  have i1 : ∀ a b : Int32, a < b ↔ a.toInt < b.toInt := fun a b => Int32.lt_iff_toInt_lt
  have i2 : ∀ a b : Int32, a ≤ b ↔ a.toInt ≤ b.toInt := fun a b => Int32.le_iff_toInt_le
  intro m
  induction m with
  | zero =>
    intro D kk w v Q hD hm hk h1 h0
    have e1 := ct kk v 1
    have e29 := c29 kk v set
    have z0 : nI 0 ≤ (0 : Int32) := by decide +kernel
    rw [sp_ie] at h1 h0
    refine MW.of ok_Intro_isEnough (Nat.le_of_ble_eq_true rfl) ?_
    refine cp_run 60 (fun _ => false) ck_Intro_isEnough ?_
    simp only [cp_vc, cp_vs, cp_jm, cp_ent_en, cp_en_int, cp_en_ref, cp_en_ret, cp_en_long, cp_en_nil, cp_s1_at, cp_s2_at, cp_nl_int, cp_nl_ref, cp_nl_long, cp_nl_none, cp_pop_0, cp_pop_s, reduceIte, if_true, if_false, Bool.false_eq_true, Bool.true_eq_false, false_implies, implies_true, forall_const, true_implies, true_and, and_true, and_self, true_or, or_true, false_or, or_false, Value.category, List.length_cons, List.length_nil, Option.toList_some, Option.toList_none, List.cons_append, List.nil_append, List.append_nil, Prod.mk.injEq, Nat.add_zero, Nat.zero_add, Nat.reduceAdd, Nat.reduceSub, Nat.reduceEqDiff, Nat.reduceLeDiff, Nat.reduceLT, Nat.le_refl, beq_self_eq_true, Nat.reduceBEq, ne_eq, not_true_eq_false, not_false_eq_true, Int32.reduceAdd, Int32.reduceSub, Int32.reduceMul, Int32.reduceLE, Int32.reduceLT, Int32.reduceToNatClampNeg, b01_0, b01_1, ne_2_0, ne_3_0, ne_4_0, ne_5_0, ne_6_0, ne_m1_0, ne_m2_0, b01_01, b01_n, lt_m2, lt_m1, le_m2, le_m1, Classical.not_not, j_Intro_isEnough_0, b_Intro_isEnough_0, j_Intro_isEnough_36, b_Intro_isEnough_36, j_Intro_isEnough_55, b_Intro_isEnough_55, j_Intro_isEnough_56, b_Intro_isEnough_56, j_Intro_isEnough_57, b_Intro_isEnough_57, j_Intro_isEnough_60, b_Intro_isEnough_60, j_Intro_isEnough_78, b_Intro_isEnough_78, j_Intro_isEnough_136, b_Intro_isEnough_136, j_Intro_isEnough_142, b_Intro_isEnough_142, j_Intro_isEnough_148, b_Intro_isEnough_148, an_0, an_1, an_10, cl_0, cl_1, cl_10, ne_0_1, ne_1_0, pp_15_0, pp_15_7, sh_15, sh_29, sh_40, vi_0, vi_1, vi_10, sh_15, pp_15_0, sT0 ht, sT1 ht, sT2 ht, sT3 ht, sT4 ht, sT5 ht, sT6 ht, sT7 ht, sT8 ht, sT9 ht, pT1 ht, pT2 ht, pT3 ht, pT4 ht, pT5 ht, pT6 ht, pT7 ht, pT8 ht, pT9 ht, e1, z0, vin (show set < 64 by omega) (by omega), ncl (show set < 1000 by omega), e29, emx]
    refine ⟨fun c => ?_, fun c => ?_⟩
    · rw [if_pos c] at h0
      exact h0 rfl
    · rw [if_neg c] at h1
      exact h1 none rfl
  | succ m ih =>
    intro D kk w v Q hD hm hk h1 h0
    obtain ⟨D, rfl⟩ : ∃ D', D = D' + 2 := ⟨d + 2 * m, by omega⟩
    have e1 := ct kk v 1
    have e29 := c29 kk v set
    have z0 : ¬ nI (m + 1) ≤ (0 : Int32) := nI_nle (by omega) (by omega)
    rw [sp_ie] at h1 h0
    refine MW.of ok_Intro_isEnough (Nat.le_of_ble_eq_true rfl) ?_
    refine cp_run 60 (fun t => t == 36 || t == 60) ck_Intro_isEnough ?_
    simp only [cp_vc, cp_vs, cp_jm, cp_ent_en, cp_en_int, cp_en_ref, cp_en_ret, cp_en_long, cp_en_nil, cp_s1_at, cp_s2_at, cp_nl_int, cp_nl_ref, cp_nl_long, cp_nl_none, cp_pop_0, cp_pop_s, reduceIte, if_true, if_false, Bool.false_eq_true, Bool.true_eq_false, false_implies, implies_true, forall_const, true_implies, true_and, and_true, and_self, true_or, or_true, false_or, or_false, Value.category, List.length_cons, List.length_nil, Option.toList_some, Option.toList_none, List.cons_append, List.nil_append, List.append_nil, Prod.mk.injEq, Nat.add_zero, Nat.zero_add, Nat.reduceAdd, Nat.reduceSub, Nat.reduceEqDiff, Nat.reduceLeDiff, Nat.reduceLT, Nat.le_refl, beq_self_eq_true, Nat.reduceBEq, ne_eq, not_true_eq_false, not_false_eq_true, Int32.reduceAdd, Int32.reduceSub, Int32.reduceMul, Int32.reduceLE, Int32.reduceLT, Int32.reduceToNatClampNeg, b01_0, b01_1, ne_2_0, ne_3_0, ne_4_0, ne_5_0, ne_6_0, ne_m1_0, ne_m2_0, b01_01, b01_n, lt_m2, lt_m1, le_m2, le_m1, Classical.not_not, Bool.or_false, Bool.false_or, Bool.true_or, Bool.or_true, j_Intro_isEnough_0, b_Intro_isEnough_0, j_Intro_isEnough_36, b_Intro_isEnough_36, j_Intro_isEnough_55, b_Intro_isEnough_55, j_Intro_isEnough_56, b_Intro_isEnough_56, j_Intro_isEnough_57, b_Intro_isEnough_57, j_Intro_isEnough_60, b_Intro_isEnough_60, j_Intro_isEnough_78, b_Intro_isEnough_78, j_Intro_isEnough_136, b_Intro_isEnough_136, j_Intro_isEnough_142, b_Intro_isEnough_142, j_Intro_isEnough_148, b_Intro_isEnough_148, an_0, an_1, an_10, cl_0, cl_1, cl_10, ne_0_1, ne_1_0, pp_15_0, pp_15_7, sh_15, sh_29, sh_40, vi_0, vi_1, vi_10, sh_15, pp_15_0, sT0 ht, sT1 ht, sT2 ht, sT3 ht, sT4 ht, sT5 ht, sT6 ht, sT7 ht, sT8 ht, sT9 ht, pT1 ht, pT2 ht, pT3 ht, pT4 ht, pT5 ht, pT6 ht, pT7 ht, pT8 ht, pT9 ht, e1, z0, vin (show set < 64 by omega) (by omega), ncl (show set < 1000 by omega), e29, emx]
    refine ⟨fun c => ?_, fun c => ?_⟩
    · have c' : ¬ mx0 (w + nI (m + 1) * (I t 1 + 1)) < I 29 set := by rw [i2] at c; rw [i1]; omega
      rw [if_neg c'] at h1 h0
      have eW : ∀ (K : cp_QT) (a b : Nat), a < n → b < n → a < b → (∀ v', (sp_ie (I t 1) (I 29 set) F set n m (tgl kk a b) (if (set.testBit a && set.testBit b) = true then w + I t 1 + 1 else w)).isSome = true → K (some (.int 1)) SH (imk n I kk v') J (PP t u r x)) → ((sp_ie (I t 1) (I 29 set) F set n m (tgl kk a b) (if (set.testBit a && set.testBit b) = true then w + I t 1 + 1 else w)).isSome = false → K (some (.int 0)) SH (imk n I kk v) J (PP t u r x)) → MW g false (D + 3) 0 0 m_Intro_isEnoughWith [.ref 40, .ref 15, .int (nI set), .int w, .int (nI (m + 1)), .int (nI (10 * a + b))] SH (imk n I kk v) J (PP t u r x) K := by
        intro K a b ha hb hab k1 k0
        have ed : nI (10 * a + b) / 10 = nI a := by
          have := pk_div (a := 10 * a + b) (d := 10) (by omega) (by omega) (by omega)
          rw [show (10 : Int32) = nI 10 from rfl, this, show (10 * a + b) / 10 = a by omega]
        have er : nI (10 * a + b) - nI a * 10 = nI b := by
          rw [show (10 : Int32) = nI 10 from rfl, pk_mul, pk_sub (by omega), show 10 * a + b - a * 10 = b by omega]
        have z10 : ¬ (10 : Int32) = 0 := by decide +kernel
        have em1 : nI (m + 1) - 1 = nI m := nI_pred m
        have ect := ct (tgl kk a b) v 1
        have tl := tgl_lt (show a < 6 by omega) (show b < 6 by omega) hk ha hb
        have inner : ∀ (L : cp_Lo) (w' : Int32), w' = (if (set.testBit a && set.testBit b) = true then w + I t 1 + 1 else w) → L 0 = some (.ref 40) → L 1 = some (.ref 15) → L 2 = some (.int (nI set)) → L 4 = some (.int (nI (m + 1))) → L 6 = some (.int (nI a)) → L 7 = some (.int (nI b)) → RW g false (D + 3) 0 0 m_Intro_isEnoughWith 0 0 66 L [.int w', .int (nI set), .ref 15, .ref 40] SH (imk n I (tgl kk a b) v) J (PP t u r x) K := by
          intro L w' hw l0 l1 l2 l4 l6 l7
          refine cp_run 40 (fun _ => false) ck_Intro_isEnoughWith ?_
          simp only [cp_vc, cp_vs, cp_jm, cp_ent_en, cp_en_int, cp_en_ref, cp_en_ret, cp_en_long, cp_en_nil, cp_s1_at, cp_s2_at, cp_nl_int, cp_nl_ref, cp_nl_long, cp_nl_none, cp_pop_0, cp_pop_s, reduceIte, if_true, if_false, Bool.false_eq_true, Bool.true_eq_false, false_implies, implies_true, forall_const, true_implies, true_and, and_true, and_self, true_or, or_true, false_or, or_false, Value.category, List.length_cons, List.length_nil, Option.toList_some, Option.toList_none, List.cons_append, List.nil_append, List.append_nil, Prod.mk.injEq, Nat.add_zero, Nat.zero_add, Nat.reduceAdd, Nat.reduceSub, Nat.reduceEqDiff, Nat.reduceLeDiff, Nat.reduceLT, Nat.le_refl, beq_self_eq_true, Nat.reduceBEq, ne_eq, not_true_eq_false, not_false_eq_true, Int32.reduceAdd, Int32.reduceSub, Int32.reduceMul, Int32.reduceLE, Int32.reduceLT, Int32.reduceToNatClampNeg, b01_0, b01_1, ne_2_0, ne_3_0, ne_4_0, ne_5_0, ne_6_0, ne_m1_0, ne_m2_0, b01_01, b01_n, lt_m2, lt_m1, le_m2, le_m1, Classical.not_not, j_Intro_isEnoughWith_0, b_Intro_isEnoughWith_0, j_Intro_isEnoughWith_32, b_Intro_isEnoughWith_32, j_Intro_isEnoughWith_33, b_Intro_isEnoughWith_33, j_Intro_isEnoughWith_65, b_Intro_isEnoughWith_65, j_Intro_isEnoughWith_66, b_Intro_isEnoughWith_66, an_0, an_1, an_10, cl_0, cl_1, cl_10, ne_0_1, ne_1_0, pp_15_0, sh_15, sh_40, vi_0, vi_1, vi_10, l0, l1, l2, l4, l6, l7, em1]
          rw [hw]
          refine ih D (tgl kk a b) _ v _ (by omega) (by omega) tl ?_ ?_
          · intro o ho
            simp only [cp_kk, cp_vc, cp_vs, cp_jm, cp_ent_en, cp_en_int, cp_en_ref, cp_en_ret, cp_en_long, cp_en_nil, cp_s1_at, cp_s2_at, cp_nl_int, cp_nl_ref, cp_nl_long, cp_nl_none, cp_pop_0, cp_pop_s, reduceIte, if_true, if_false, Bool.false_eq_true, Bool.true_eq_false, false_implies, implies_true, forall_const, true_implies, true_and, and_true, and_self, true_or, or_true, false_or, or_false, Value.category, List.length_cons, List.length_nil, Option.toList_some, Option.toList_none, List.cons_append, List.nil_append, List.append_nil, Prod.mk.injEq, Nat.add_zero, Nat.zero_add, Nat.reduceAdd, Nat.reduceSub, Nat.reduceEqDiff, Nat.reduceLeDiff, Nat.reduceLT, Nat.le_refl, beq_self_eq_true, Nat.reduceBEq, ne_eq, not_true_eq_false, not_false_eq_true, Int32.reduceAdd, Int32.reduceSub, Int32.reduceMul, Int32.reduceLE, Int32.reduceLT, Int32.reduceToNatClampNeg, b01_0, b01_1, ne_2_0, ne_3_0, ne_4_0, ne_5_0, ne_6_0, ne_m1_0, ne_m2_0, b01_01, b01_n, lt_m2, lt_m1, le_m2, le_m1, Classical.not_not, Bool.or_false, Bool.false_or, Bool.true_or, Bool.or_true, j_Intro_isEnoughWith_0, b_Intro_isEnoughWith_0, j_Intro_isEnoughWith_32, b_Intro_isEnoughWith_32, j_Intro_isEnoughWith_33, b_Intro_isEnoughWith_33, j_Intro_isEnoughWith_65, b_Intro_isEnoughWith_65, j_Intro_isEnoughWith_66, b_Intro_isEnoughWith_66, an_0, an_1, an_10, cl_0, cl_1, cl_10, ne_0_1, ne_1_0, pp_15_0, sh_15, sh_40, vi_0, vi_1, vi_10, l0, l1, l2, l4, l6, l7]
            refine c_Intro_toggle hn6 ha hb (by omega) tl ?_
            rw [tgl_2 (by omega)]
            simp only [cp_kk, cp_vc, cp_vs, cp_jm, cp_ent_en, cp_en_int, cp_en_ref, cp_en_ret, cp_en_long, cp_en_nil, cp_s1_at, cp_s2_at, cp_nl_int, cp_nl_ref, cp_nl_long, cp_nl_none, cp_pop_0, cp_pop_s, reduceIte, if_true, if_false, Bool.false_eq_true, Bool.true_eq_false, false_implies, implies_true, forall_const, true_implies, true_and, and_true, and_self, true_or, or_true, false_or, or_false, Value.category, List.length_cons, List.length_nil, Option.toList_some, Option.toList_none, List.cons_append, List.nil_append, List.append_nil, Prod.mk.injEq, Nat.add_zero, Nat.zero_add, Nat.reduceAdd, Nat.reduceSub, Nat.reduceEqDiff, Nat.reduceLeDiff, Nat.reduceLT, Nat.le_refl, beq_self_eq_true, Nat.reduceBEq, ne_eq, not_true_eq_false, not_false_eq_true, Int32.reduceAdd, Int32.reduceSub, Int32.reduceMul, Int32.reduceLE, Int32.reduceLT, Int32.reduceToNatClampNeg, b01_0, b01_1, ne_2_0, ne_3_0, ne_4_0, ne_5_0, ne_6_0, ne_m1_0, ne_m2_0, b01_01, b01_n, lt_m2, lt_m1, le_m2, le_m1, Classical.not_not, Bool.or_false, Bool.false_or, Bool.true_or, Bool.or_true, j_Intro_isEnoughWith_0, b_Intro_isEnoughWith_0, j_Intro_isEnoughWith_32, b_Intro_isEnoughWith_32, j_Intro_isEnoughWith_33, b_Intro_isEnoughWith_33, j_Intro_isEnoughWith_65, b_Intro_isEnoughWith_65, j_Intro_isEnoughWith_66, b_Intro_isEnoughWith_66, an_0, an_1, an_10, cl_0, cl_1, cl_10, ne_0_1, ne_1_0, pp_15_0, sh_15, sh_40, vi_0, vi_1, vi_10]
            exact k1 _ (by rw [ho]; rfl)
          · intro ho
            simp only [cp_kk, cp_vc, cp_vs, cp_jm, cp_ent_en, cp_en_int, cp_en_ref, cp_en_ret, cp_en_long, cp_en_nil, cp_s1_at, cp_s2_at, cp_nl_int, cp_nl_ref, cp_nl_long, cp_nl_none, cp_pop_0, cp_pop_s, reduceIte, if_true, if_false, Bool.false_eq_true, Bool.true_eq_false, false_implies, implies_true, forall_const, true_implies, true_and, and_true, and_self, true_or, or_true, false_or, or_false, Value.category, List.length_cons, List.length_nil, Option.toList_some, Option.toList_none, List.cons_append, List.nil_append, List.append_nil, Prod.mk.injEq, Nat.add_zero, Nat.zero_add, Nat.reduceAdd, Nat.reduceSub, Nat.reduceEqDiff, Nat.reduceLeDiff, Nat.reduceLT, Nat.le_refl, beq_self_eq_true, Nat.reduceBEq, ne_eq, not_true_eq_false, not_false_eq_true, Int32.reduceAdd, Int32.reduceSub, Int32.reduceMul, Int32.reduceLE, Int32.reduceLT, Int32.reduceToNatClampNeg, b01_0, b01_1, ne_2_0, ne_3_0, ne_4_0, ne_5_0, ne_6_0, ne_m1_0, ne_m2_0, b01_01, b01_n, lt_m2, lt_m1, le_m2, le_m1, Classical.not_not, Bool.or_false, Bool.false_or, Bool.true_or, Bool.or_true, j_Intro_isEnoughWith_0, b_Intro_isEnoughWith_0, j_Intro_isEnoughWith_32, b_Intro_isEnoughWith_32, j_Intro_isEnoughWith_33, b_Intro_isEnoughWith_33, j_Intro_isEnoughWith_65, b_Intro_isEnoughWith_65, j_Intro_isEnoughWith_66, b_Intro_isEnoughWith_66, an_0, an_1, an_10, cl_0, cl_1, cl_10, ne_0_1, ne_1_0, pp_15_0, sh_15, sh_40, vi_0, vi_1, vi_10, l0, l1, l2, l4, l6, l7]
            refine c_Intro_toggle hn6 ha hb (by omega) tl ?_
            rw [tgl_2 (by omega)]
            simp only [cp_kk, cp_vc, cp_vs, cp_jm, cp_ent_en, cp_en_int, cp_en_ref, cp_en_ret, cp_en_long, cp_en_nil, cp_s1_at, cp_s2_at, cp_nl_int, cp_nl_ref, cp_nl_long, cp_nl_none, cp_pop_0, cp_pop_s, reduceIte, if_true, if_false, Bool.false_eq_true, Bool.true_eq_false, false_implies, implies_true, forall_const, true_implies, true_and, and_true, and_self, true_or, or_true, false_or, or_false, Value.category, List.length_cons, List.length_nil, Option.toList_some, Option.toList_none, List.cons_append, List.nil_append, List.append_nil, Prod.mk.injEq, Nat.add_zero, Nat.zero_add, Nat.reduceAdd, Nat.reduceSub, Nat.reduceEqDiff, Nat.reduceLeDiff, Nat.reduceLT, Nat.le_refl, beq_self_eq_true, Nat.reduceBEq, ne_eq, not_true_eq_false, not_false_eq_true, Int32.reduceAdd, Int32.reduceSub, Int32.reduceMul, Int32.reduceLE, Int32.reduceLT, Int32.reduceToNatClampNeg, b01_0, b01_1, ne_2_0, ne_3_0, ne_4_0, ne_5_0, ne_6_0, ne_m1_0, ne_m2_0, b01_01, b01_n, lt_m2, lt_m1, le_m2, le_m1, Classical.not_not, Bool.or_false, Bool.false_or, Bool.true_or, Bool.or_true, j_Intro_isEnoughWith_0, b_Intro_isEnoughWith_0, j_Intro_isEnoughWith_32, b_Intro_isEnoughWith_32, j_Intro_isEnoughWith_33, b_Intro_isEnoughWith_33, j_Intro_isEnoughWith_65, b_Intro_isEnoughWith_65, j_Intro_isEnoughWith_66, b_Intro_isEnoughWith_66, an_0, an_1, an_10, cl_0, cl_1, cl_10, ne_0_1, ne_1_0, pp_15_0, sh_15, sh_40, vi_0, vi_1, vi_10]
            exact k0 (by rw [ho]; rfl)
        refine MW.of ok_Intro_isEnoughWith (Nat.le_of_ble_eq_true rfl) ?_
        refine cp_run 60 (fun t => t == 66) ck_Intro_isEnoughWith ?_
        simp only [cp_vc, cp_vs, cp_jm, cp_ent_en, cp_en_int, cp_en_ref, cp_en_ret, cp_en_long, cp_en_nil, cp_s1_at, cp_s2_at, cp_nl_int, cp_nl_ref, cp_nl_long, cp_nl_none, cp_pop_0, cp_pop_s, reduceIte, if_true, if_false, Bool.false_eq_true, Bool.true_eq_false, false_implies, implies_true, forall_const, true_implies, true_and, and_true, and_self, true_or, or_true, false_or, or_false, Value.category, List.length_cons, List.length_nil, Option.toList_some, Option.toList_none, List.cons_append, List.nil_append, List.append_nil, Prod.mk.injEq, Nat.add_zero, Nat.zero_add, Nat.reduceAdd, Nat.reduceSub, Nat.reduceEqDiff, Nat.reduceLeDiff, Nat.reduceLT, Nat.le_refl, beq_self_eq_true, Nat.reduceBEq, ne_eq, not_true_eq_false, not_false_eq_true, Int32.reduceAdd, Int32.reduceSub, Int32.reduceMul, Int32.reduceLE, Int32.reduceLT, Int32.reduceToNatClampNeg, b01_0, b01_1, ne_2_0, ne_3_0, ne_4_0, ne_5_0, ne_6_0, ne_m1_0, ne_m2_0, b01_01, b01_n, lt_m2, lt_m1, le_m2, le_m1, Classical.not_not, j_Intro_isEnoughWith_0, b_Intro_isEnoughWith_0, j_Intro_isEnoughWith_32, b_Intro_isEnoughWith_32, j_Intro_isEnoughWith_33, b_Intro_isEnoughWith_33, j_Intro_isEnoughWith_65, b_Intro_isEnoughWith_65, j_Intro_isEnoughWith_66, b_Intro_isEnoughWith_66, an_0, an_1, an_10, cl_0, cl_1, cl_10, ne_0_1, ne_1_0, pp_15_0, sh_15, sh_40, vi_0, vi_1, vi_10, ed, er, z10, hb_2 hs (show a < 8 by omega) (show b < 8 by omega)]
        refine ⟨fun q => ?_, fun q => ?_⟩
        · refine c_Intro_toggle hn6 ha hb (by omega) hk ?_
          simp only [cp_kk, cp_vc, cp_vs, cp_jm, cp_ent_en, cp_en_int, cp_en_ref, cp_en_ret, cp_en_long, cp_en_nil, cp_s1_at, cp_s2_at, cp_nl_int, cp_nl_ref, cp_nl_long, cp_nl_none, cp_pop_0, cp_pop_s, reduceIte, if_true, if_false, Bool.false_eq_true, Bool.true_eq_false, false_implies, implies_true, forall_const, true_implies, true_and, and_true, and_self, true_or, or_true, false_or, or_false, Value.category, List.length_cons, List.length_nil, Option.toList_some, Option.toList_none, List.cons_append, List.nil_append, List.append_nil, Prod.mk.injEq, Nat.add_zero, Nat.zero_add, Nat.reduceAdd, Nat.reduceSub, Nat.reduceEqDiff, Nat.reduceLeDiff, Nat.reduceLT, Nat.le_refl, beq_self_eq_true, Nat.reduceBEq, ne_eq, not_true_eq_false, not_false_eq_true, Int32.reduceAdd, Int32.reduceSub, Int32.reduceMul, Int32.reduceLE, Int32.reduceLT, Int32.reduceToNatClampNeg, b01_0, b01_1, ne_2_0, ne_3_0, ne_4_0, ne_5_0, ne_6_0, ne_m1_0, ne_m2_0, b01_01, b01_n, lt_m2, lt_m1, le_m2, le_m1, Classical.not_not, Bool.or_false, Bool.false_or, Bool.true_or, Bool.or_true, j_Intro_isEnoughWith_0, b_Intro_isEnoughWith_0, j_Intro_isEnoughWith_32, b_Intro_isEnoughWith_32, j_Intro_isEnoughWith_33, b_Intro_isEnoughWith_33, j_Intro_isEnoughWith_65, b_Intro_isEnoughWith_65, j_Intro_isEnoughWith_66, b_Intro_isEnoughWith_66, an_0, an_1, an_10, cl_0, cl_1, cl_10, ne_0_1, ne_1_0, pp_15_0, sh_15, sh_40, vi_0, vi_1, vi_10]
          refine inner _ _ (by rw [if_neg (by simp [q])]) ?_ ?_ ?_ ?_ ?_ ?_ <;> simp [cp_s1_at, cp_ent_en, cp_en_ref, cp_en_int, cp_nl_ref, cp_nl_int]
        · refine c_Intro_toggle hn6 ha hb (by omega) hk ?_
          have q' : (set.testBit a && set.testBit b) = true := by
            cases hh : (set.testBit a && set.testBit b) with
            | false => exact absurd hh q
            | true => rfl
          simp only [cp_kk, cp_vc, cp_vs, cp_jm, cp_ent_en, cp_en_int, cp_en_ref, cp_en_ret, cp_en_long, cp_en_nil, cp_s1_at, cp_s2_at, cp_nl_int, cp_nl_ref, cp_nl_long, cp_nl_none, cp_pop_0, cp_pop_s, reduceIte, if_true, if_false, Bool.false_eq_true, Bool.true_eq_false, false_implies, implies_true, forall_const, true_implies, true_and, and_true, and_self, true_or, or_true, false_or, or_false, Value.category, List.length_cons, List.length_nil, Option.toList_some, Option.toList_none, List.cons_append, List.nil_append, List.append_nil, Prod.mk.injEq, Nat.add_zero, Nat.zero_add, Nat.reduceAdd, Nat.reduceSub, Nat.reduceEqDiff, Nat.reduceLeDiff, Nat.reduceLT, Nat.le_refl, beq_self_eq_true, Nat.reduceBEq, ne_eq, not_true_eq_false, not_false_eq_true, Int32.reduceAdd, Int32.reduceSub, Int32.reduceMul, Int32.reduceLE, Int32.reduceLT, Int32.reduceToNatClampNeg, b01_0, b01_1, ne_2_0, ne_3_0, ne_4_0, ne_5_0, ne_6_0, ne_m1_0, ne_m2_0, b01_01, b01_n, lt_m2, lt_m1, le_m2, le_m1, Classical.not_not, Bool.or_false, Bool.false_or, Bool.true_or, Bool.or_true, j_Intro_isEnoughWith_0, b_Intro_isEnoughWith_0, j_Intro_isEnoughWith_32, b_Intro_isEnoughWith_32, j_Intro_isEnoughWith_33, b_Intro_isEnoughWith_33, j_Intro_isEnoughWith_65, b_Intro_isEnoughWith_65, j_Intro_isEnoughWith_66, b_Intro_isEnoughWith_66, an_0, an_1, an_10, cl_0, cl_1, cl_10, ne_0_1, ne_1_0, pp_15_0, sh_15, sh_40, vi_0, vi_1, vi_10, sh_15, pp_15_0, sT0 ht, sT1 ht, sT2 ht, sT3 ht, sT4 ht, sT5 ht, sT6 ht, sT7 ht, sT8 ht, sT9 ht, pT1 ht, pT2 ht, pT3 ht, pT4 ht, pT5 ht, pT6 ht, pT7 ht, pT8 ht, pT9 ht, ect]
          refine inner _ _ (by rw [if_pos q']) ?_ ?_ ?_ ?_ ?_ ?_ <;> simp [cp_s1_at, cp_ent_en, cp_en_ref, cp_en_int, cp_nl_ref, cp_nl_int]
      have e10 : ∀ a b : Nat, (10 : Int32) * nI a + nI b = nI (10 * a + b) := by
        intro a b
        rw [show (10 : Int32) = nI 10 from rfl, pk_mul, nI_add]
      have s78 : ∀ (a : Nat), a < n → ∀ (k b : Nat) (L : cp_Lo), b + k = n → a < b → L 0 = some (.ref 40) → L 1 = some (.ref 15) → L 2 = some (.int (nI set)) → L 3 = some (.int w) → L 4 = some (.int (nI (m + 1))) → L 6 = some (.int (nI a)) → L 7 = some (.int (nI b)) →
          (∀ p, fiO (fun b => if (cmt kk F a b && (sp_ie (I t 1) (I 29 set) F set n m (tgl kk a b) (if (set.testBit a && set.testBit b) = true then w + I t 1 + 1 else w)).isSome) = true then some (10 * a + b) else none) k b = some p → Q (some (.int 1)) SH (imk n I kk (nI p)) J (PP t u r x)) →
          (fiO (fun b => if (cmt kk F a b && (sp_ie (I t 1) (I 29 set) F set n m (tgl kk a b) (if (set.testBit a && set.testBit b) = true then w + I t 1 + 1 else w)).isSome) = true then some (10 * a + b) else none) k b = none → ∀ L' : cp_Lo, L' 0 = some (.ref 40) → L' 1 = some (.ref 15) → L' 2 = some (.int (nI set)) → L' 3 = some (.int w) → L' 4 = some (.int (nI (m + 1))) → L' 6 = some (.int (nI a)) → RW g false (D + 4) 0 0 m_Intro_isEnough 0 0 142 L' [] SH (imk n I kk v) J (PP t u r x) Q) →
          RW g false (D + 4) 0 0 m_Intro_isEnough 0 0 78 L [] SH (imk n I kk v) J (PP t u r x) Q := by
        intro a ha k
        induction k with
        | zero =>
          intro b L hb hab l0 l1 l2 l3 l4 l6 l7 g1 g0
          have c1 : nI n ≤ nI b := nI_le (by omega) (by omega)
          have e := hnM kk v
          refine cp_run 20 (fun t => t == 78 || t == 142) ck_Intro_isEnough ?_
          rw [j_Intro_isEnough_78, b_Intro_isEnough_78]
          simp only [cp_vc, cp_vs, cp_jm, cp_ent_en, cp_en_int, cp_en_ref, cp_en_ret, cp_en_long, cp_en_nil, cp_s1_at, cp_s2_at, cp_nl_int, cp_nl_ref, cp_nl_long, cp_nl_none, cp_pop_0, cp_pop_s, reduceIte, if_true, if_false, Bool.false_eq_true, Bool.true_eq_false, false_implies, implies_true, forall_const, true_implies, true_and, and_true, and_self, true_or, or_true, false_or, or_false, Value.category, List.length_cons, List.length_nil, Option.toList_some, Option.toList_none, List.cons_append, List.nil_append, List.append_nil, Prod.mk.injEq, Nat.add_zero, Nat.zero_add, Nat.reduceAdd, Nat.reduceSub, Nat.reduceEqDiff, Nat.reduceLeDiff, Nat.reduceLT, Nat.le_refl, beq_self_eq_true, Nat.reduceBEq, ne_eq, not_true_eq_false, not_false_eq_true, Int32.reduceAdd, Int32.reduceSub, Int32.reduceMul, Int32.reduceLE, Int32.reduceLT, Int32.reduceToNatClampNeg, b01_0, b01_1, ne_2_0, ne_3_0, ne_4_0, ne_5_0, ne_6_0, ne_m1_0, ne_m2_0, b01_01, b01_n, lt_m2, lt_m1, le_m2, le_m1, Classical.not_not, Bool.or_false, Bool.false_or, Bool.true_or, Bool.or_true, j_Intro_isEnough_0, b_Intro_isEnough_0, j_Intro_isEnough_36, b_Intro_isEnough_36, j_Intro_isEnough_55, b_Intro_isEnough_55, j_Intro_isEnough_56, b_Intro_isEnough_56, j_Intro_isEnough_57, b_Intro_isEnough_57, j_Intro_isEnough_60, b_Intro_isEnough_60, j_Intro_isEnough_136, b_Intro_isEnough_136, j_Intro_isEnough_148, b_Intro_isEnough_148, an_0, an_1, an_10, cl_0, cl_1, cl_10, ne_0_1, ne_1_0, pp_15_0, pp_15_7, sh_15, sh_29, sh_40, vi_0, vi_1, vi_10, l0, l1, l2, l3, l4, l6, l7, sh_15, pp_15_0, sT0 ht, sT1 ht, sT2 ht, sT3 ht, sT4 ht, sT5 ht, sT6 ht, sT7 ht, sT8 ht, sT9 ht, pT1 ht, pT2 ht, pT3 ht, pT4 ht, pT5 ht, pT6 ht, pT7 ht, pT8 ht, pT9 ht, e, c1]
          exact g0 rfl L l0 l1 l2 l3 l4 l6
        | succ k ihk =>
          intro b L hb hab l0 l1 l2 l3 l4 l6 l7 g1 g0
          have c1 : ¬ nI n ≤ nI b := nI_ge (by omega) (by omega)
          have e := hnM kk v
          rw [fiO] at g1 g0
          have no : (cmt kk F a b && (sp_ie (I t 1) (I 29 set) F set n m (tgl kk a b) (if (set.testBit a && set.testBit b) = true then w + I t 1 + 1 else w)).isSome) = false → RW g false (D + 4) 0 0 m_Intro_isEnough 0 0 78 (cp_s1 L 7 (.int (nI (b + 1)))) [] SH (imk n I kk v) J (PP t u r x) Q := by
            intro q
            simp only [q, Bool.false_eq_true, if_false] at g1 g0
            refine ihk (b + 1) _ (by omega) (by omega) ?_ ?_ ?_ ?_ ?_ ?_ ?_ g1 g0 <;> simp [cp_s1_at, cp_nl_int, cp_nl_ref, l0, l1, l2, l3, l4, l6]
          refine cp_run 60 (fun t => t == 78 || t == 142) ck_Intro_isEnough ?_
          rw [j_Intro_isEnough_78, b_Intro_isEnough_78]
          simp only [cp_vc, cp_vs, cp_jm, cp_ent_en, cp_en_int, cp_en_ref, cp_en_ret, cp_en_long, cp_en_nil, cp_s1_at, cp_s2_at, cp_nl_int, cp_nl_ref, cp_nl_long, cp_nl_none, cp_pop_0, cp_pop_s, reduceIte, if_true, if_false, Bool.false_eq_true, Bool.true_eq_false, false_implies, implies_true, forall_const, true_implies, true_and, and_true, and_self, true_or, or_true, false_or, or_false, Value.category, List.length_cons, List.length_nil, Option.toList_some, Option.toList_none, List.cons_append, List.nil_append, List.append_nil, Prod.mk.injEq, Nat.add_zero, Nat.zero_add, Nat.reduceAdd, Nat.reduceSub, Nat.reduceEqDiff, Nat.reduceLeDiff, Nat.reduceLT, Nat.le_refl, beq_self_eq_true, Nat.reduceBEq, ne_eq, not_true_eq_false, not_false_eq_true, Int32.reduceAdd, Int32.reduceSub, Int32.reduceMul, Int32.reduceLE, Int32.reduceLT, Int32.reduceToNatClampNeg, b01_0, b01_1, ne_2_0, ne_3_0, ne_4_0, ne_5_0, ne_6_0, ne_m1_0, ne_m2_0, b01_01, b01_n, lt_m2, lt_m1, le_m2, le_m1, Classical.not_not, Bool.or_false, Bool.false_or, Bool.true_or, Bool.or_true, j_Intro_isEnough_0, b_Intro_isEnough_0, j_Intro_isEnough_36, b_Intro_isEnough_36, j_Intro_isEnough_55, b_Intro_isEnough_55, j_Intro_isEnough_56, b_Intro_isEnough_56, j_Intro_isEnough_57, b_Intro_isEnough_57, j_Intro_isEnough_60, b_Intro_isEnough_60, j_Intro_isEnough_136, b_Intro_isEnough_136, j_Intro_isEnough_148, b_Intro_isEnough_148, an_0, an_1, an_10, cl_0, cl_1, cl_10, ne_0_1, ne_1_0, pp_15_0, pp_15_7, sh_15, sh_29, sh_40, vi_0, vi_1, vi_10, l0, l1, l2, l3, l4, l6, l7, sh_15, pp_15_0, sT0 ht, sT1 ht, sT2 ht, sT3 ht, sT4 ht, sT5 ht, sT6 ht, sT7 ht, sT8 ht, sT9 ht, pT1 ht, pT2 ht, pT3 ht, pT4 ht, pT5 ht, pT6 ht, pT7 ht, pT8 ht, pT9 ht, e, c1]
          refine c_Intro_canBe hn6 ha (by omega) hk hF ?_
          simp only [cp_kk, cp_vc, cp_vs, cp_jm, cp_ent_en, cp_en_int, cp_en_ref, cp_en_ret, cp_en_long, cp_en_nil, cp_s1_at, cp_s2_at, cp_nl_int, cp_nl_ref, cp_nl_long, cp_nl_none, cp_pop_0, cp_pop_s, reduceIte, if_true, if_false, Bool.false_eq_true, Bool.true_eq_false, false_implies, implies_true, forall_const, true_implies, true_and, and_true, and_self, true_or, or_true, false_or, or_false, Value.category, List.length_cons, List.length_nil, Option.toList_some, Option.toList_none, List.cons_append, List.nil_append, List.append_nil, Prod.mk.injEq, Nat.add_zero, Nat.zero_add, Nat.reduceAdd, Nat.reduceSub, Nat.reduceEqDiff, Nat.reduceLeDiff, Nat.reduceLT, Nat.le_refl, beq_self_eq_true, Nat.reduceBEq, ne_eq, not_true_eq_false, not_false_eq_true, Int32.reduceAdd, Int32.reduceSub, Int32.reduceMul, Int32.reduceLE, Int32.reduceLT, Int32.reduceToNatClampNeg, b01_0, b01_1, ne_2_0, ne_3_0, ne_4_0, ne_5_0, ne_6_0, ne_m1_0, ne_m2_0, b01_01, b01_n, lt_m2, lt_m1, le_m2, le_m1, Classical.not_not, Bool.or_false, Bool.false_or, Bool.true_or, Bool.or_true, j_Intro_isEnough_0, b_Intro_isEnough_0, j_Intro_isEnough_36, b_Intro_isEnough_36, j_Intro_isEnough_55, b_Intro_isEnough_55, j_Intro_isEnough_56, b_Intro_isEnough_56, j_Intro_isEnough_57, b_Intro_isEnough_57, j_Intro_isEnough_60, b_Intro_isEnough_60, j_Intro_isEnough_136, b_Intro_isEnough_136, j_Intro_isEnough_148, b_Intro_isEnough_148, an_0, an_1, an_10, cl_0, cl_1, cl_10, ne_0_1, ne_1_0, pp_15_0, pp_15_7, sh_15, sh_29, sh_40, vi_0, vi_1, vi_10, l0, l1, l2, l3, l4, l6, l7, e10, nI_1]
          refine ⟨fun q => no (by simp [q]), fun q => ?_⟩
          refine eW _ a b ha (by omega) hab ?_ ?_
          · intro v' q2
            simp only [cp_kk, cp_vc, cp_vs, cp_jm, cp_ent_en, cp_en_int, cp_en_ref, cp_en_ret, cp_en_long, cp_en_nil, cp_s1_at, cp_s2_at, cp_nl_int, cp_nl_ref, cp_nl_long, cp_nl_none, cp_pop_0, cp_pop_s, reduceIte, if_true, if_false, Bool.false_eq_true, Bool.true_eq_false, false_implies, implies_true, forall_const, true_implies, true_and, and_true, and_self, true_or, or_true, false_or, or_false, Value.category, List.length_cons, List.length_nil, Option.toList_some, Option.toList_none, List.cons_append, List.nil_append, List.append_nil, Prod.mk.injEq, Nat.add_zero, Nat.zero_add, Nat.reduceAdd, Nat.reduceSub, Nat.reduceEqDiff, Nat.reduceLeDiff, Nat.reduceLT, Nat.le_refl, beq_self_eq_true, Nat.reduceBEq, ne_eq, not_true_eq_false, not_false_eq_true, Int32.reduceAdd, Int32.reduceSub, Int32.reduceMul, Int32.reduceLE, Int32.reduceLT, Int32.reduceToNatClampNeg, b01_0, b01_1, ne_2_0, ne_3_0, ne_4_0, ne_5_0, ne_6_0, ne_m1_0, ne_m2_0, b01_01, b01_n, lt_m2, lt_m1, le_m2, le_m1, Classical.not_not, Bool.or_false, Bool.false_or, Bool.true_or, Bool.or_true, j_Intro_isEnough_0, b_Intro_isEnough_0, j_Intro_isEnough_36, b_Intro_isEnough_36, j_Intro_isEnough_55, b_Intro_isEnough_55, j_Intro_isEnough_56, b_Intro_isEnough_56, j_Intro_isEnough_57, b_Intro_isEnough_57, j_Intro_isEnough_60, b_Intro_isEnough_60, j_Intro_isEnough_136, b_Intro_isEnough_136, j_Intro_isEnough_148, b_Intro_isEnough_148, an_0, an_1, an_10, cl_0, cl_1, cl_10, ne_0_1, ne_1_0, pp_15_0, pp_15_7, sh_15, sh_29, sh_40, vi_0, vi_1, vi_10, l0, l1, l2, l3, l4, l6, l7, e10, imk_f]
            simp only [q, q2, Bool.and_self, if_true] at g1
            exact g1 _ rfl
          · intro q2
            simp only [cp_kk, cp_vc, cp_vs, cp_jm, cp_ent_en, cp_en_int, cp_en_ref, cp_en_ret, cp_en_long, cp_en_nil, cp_s1_at, cp_s2_at, cp_nl_int, cp_nl_ref, cp_nl_long, cp_nl_none, cp_pop_0, cp_pop_s, reduceIte, if_true, if_false, Bool.false_eq_true, Bool.true_eq_false, false_implies, implies_true, forall_const, true_implies, true_and, and_true, and_self, true_or, or_true, false_or, or_false, Value.category, List.length_cons, List.length_nil, Option.toList_some, Option.toList_none, List.cons_append, List.nil_append, List.append_nil, Prod.mk.injEq, Nat.add_zero, Nat.zero_add, Nat.reduceAdd, Nat.reduceSub, Nat.reduceEqDiff, Nat.reduceLeDiff, Nat.reduceLT, Nat.le_refl, beq_self_eq_true, Nat.reduceBEq, ne_eq, not_true_eq_false, not_false_eq_true, Int32.reduceAdd, Int32.reduceSub, Int32.reduceMul, Int32.reduceLE, Int32.reduceLT, Int32.reduceToNatClampNeg, b01_0, b01_1, ne_2_0, ne_3_0, ne_4_0, ne_5_0, ne_6_0, ne_m1_0, ne_m2_0, b01_01, b01_n, lt_m2, lt_m1, le_m2, le_m1, Classical.not_not, Bool.or_false, Bool.false_or, Bool.true_or, Bool.or_true, j_Intro_isEnough_0, b_Intro_isEnough_0, j_Intro_isEnough_36, b_Intro_isEnough_36, j_Intro_isEnough_55, b_Intro_isEnough_55, j_Intro_isEnough_56, b_Intro_isEnough_56, j_Intro_isEnough_57, b_Intro_isEnough_57, j_Intro_isEnough_60, b_Intro_isEnough_60, j_Intro_isEnough_136, b_Intro_isEnough_136, j_Intro_isEnough_148, b_Intro_isEnough_148, an_0, an_1, an_10, cl_0, cl_1, cl_10, ne_0_1, ne_1_0, pp_15_0, pp_15_7, sh_15, sh_29, sh_40, vi_0, vi_1, vi_10, l0, l1, l2, l3, l4, l6, l7, nI_1]
            exact no (by rw [q2, Bool.and_false])
      have s60 : ∀ (k a : Nat) (L : cp_Lo), a + k = n → L 0 = some (.ref 40) → L 1 = some (.ref 15) → L 2 = some (.int (nI set)) → L 3 = some (.int w) → L 4 = some (.int (nI (m + 1))) → L 6 = some (.int (nI a)) →
          (∀ p, fiO (fun a => fiO (fun b => if (cmt kk F a b && (sp_ie (I t 1) (I 29 set) F set n m (tgl kk a b) (if (set.testBit a && set.testBit b) = true then w + I t 1 + 1 else w)).isSome) = true then some (10 * a + b) else none) (n - (a + 1)) (a + 1)) k a = some p → Q (some (.int 1)) SH (imk n I kk (nI p)) J (PP t u r x)) →
          (fiO (fun a => fiO (fun b => if (cmt kk F a b && (sp_ie (I t 1) (I 29 set) F set n m (tgl kk a b) (if (set.testBit a && set.testBit b) = true then w + I t 1 + 1 else w)).isSome) = true then some (10 * a + b) else none) (n - (a + 1)) (a + 1)) k a = none → Q (some (.int 0)) SH (imk n I kk v) J (PP t u r x)) →
          RW g false (D + 4) 0 0 m_Intro_isEnough 0 0 60 L [] SH (imk n I kk v) J (PP t u r x) Q := by
        intro k
        induction k with
        | zero =>
          intro a L ha l0 l1 l2 l3 l4 l6 g1 g0
          have c1 : nI n ≤ nI a := nI_le (by omega) (by omega)
          have e := hnM kk v
          refine cp_run 20 (fun t => t == 60) ck_Intro_isEnough ?_
          rw [j_Intro_isEnough_60, b_Intro_isEnough_60]
          simp only [cp_vc, cp_vs, cp_jm, cp_ent_en, cp_en_int, cp_en_ref, cp_en_ret, cp_en_long, cp_en_nil, cp_s1_at, cp_s2_at, cp_nl_int, cp_nl_ref, cp_nl_long, cp_nl_none, cp_pop_0, cp_pop_s, reduceIte, if_true, if_false, Bool.false_eq_true, Bool.true_eq_false, false_implies, implies_true, forall_const, true_implies, true_and, and_true, and_self, true_or, or_true, false_or, or_false, Value.category, List.length_cons, List.length_nil, Option.toList_some, Option.toList_none, List.cons_append, List.nil_append, List.append_nil, Prod.mk.injEq, Nat.add_zero, Nat.zero_add, Nat.reduceAdd, Nat.reduceSub, Nat.reduceEqDiff, Nat.reduceLeDiff, Nat.reduceLT, Nat.le_refl, beq_self_eq_true, Nat.reduceBEq, ne_eq, not_true_eq_false, not_false_eq_true, Int32.reduceAdd, Int32.reduceSub, Int32.reduceMul, Int32.reduceLE, Int32.reduceLT, Int32.reduceToNatClampNeg, b01_0, b01_1, ne_2_0, ne_3_0, ne_4_0, ne_5_0, ne_6_0, ne_m1_0, ne_m2_0, b01_01, b01_n, lt_m2, lt_m1, le_m2, le_m1, Classical.not_not, j_Intro_isEnough_0, b_Intro_isEnough_0, j_Intro_isEnough_36, b_Intro_isEnough_36, j_Intro_isEnough_55, b_Intro_isEnough_55, j_Intro_isEnough_56, b_Intro_isEnough_56, j_Intro_isEnough_57, b_Intro_isEnough_57, j_Intro_isEnough_78, b_Intro_isEnough_78, j_Intro_isEnough_136, b_Intro_isEnough_136, j_Intro_isEnough_142, b_Intro_isEnough_142, j_Intro_isEnough_148, b_Intro_isEnough_148, an_0, an_1, an_10, cl_0, cl_1, cl_10, ne_0_1, ne_1_0, pp_15_0, pp_15_7, sh_15, sh_29, sh_40, vi_0, vi_1, vi_10, l0, l1, l2, l3, l4, l6, sh_15, pp_15_0, sT0 ht, sT1 ht, sT2 ht, sT3 ht, sT4 ht, sT5 ht, sT6 ht, sT7 ht, sT8 ht, sT9 ht, pT1 ht, pT2 ht, pT3 ht, pT4 ht, pT5 ht, pT6 ht, pT7 ht, pT8 ht, pT9 ht, e, c1]
          exact g0 rfl
        | succ k ihk =>
          intro a L ha l0 l1 l2 l3 l4 l6 g1 g0
          have c1 : ¬ nI n ≤ nI a := nI_ge (by omega) (by omega)
          have e := hnM kk v
          rw [fiO] at g1 g0
          refine cp_run 20 (fun t => t == 60 || t == 78) ck_Intro_isEnough ?_
          rw [j_Intro_isEnough_60, b_Intro_isEnough_60]
          simp only [cp_vc, cp_vs, cp_jm, cp_ent_en, cp_en_int, cp_en_ref, cp_en_ret, cp_en_long, cp_en_nil, cp_s1_at, cp_s2_at, cp_nl_int, cp_nl_ref, cp_nl_long, cp_nl_none, cp_pop_0, cp_pop_s, reduceIte, if_true, if_false, Bool.false_eq_true, Bool.true_eq_false, false_implies, implies_true, forall_const, true_implies, true_and, and_true, and_self, true_or, or_true, false_or, or_false, Value.category, List.length_cons, List.length_nil, Option.toList_some, Option.toList_none, List.cons_append, List.nil_append, List.append_nil, Prod.mk.injEq, Nat.add_zero, Nat.zero_add, Nat.reduceAdd, Nat.reduceSub, Nat.reduceEqDiff, Nat.reduceLeDiff, Nat.reduceLT, Nat.le_refl, beq_self_eq_true, Nat.reduceBEq, ne_eq, not_true_eq_false, not_false_eq_true, Int32.reduceAdd, Int32.reduceSub, Int32.reduceMul, Int32.reduceLE, Int32.reduceLT, Int32.reduceToNatClampNeg, b01_0, b01_1, ne_2_0, ne_3_0, ne_4_0, ne_5_0, ne_6_0, ne_m1_0, ne_m2_0, b01_01, b01_n, lt_m2, lt_m1, le_m2, le_m1, Classical.not_not, Bool.or_false, Bool.false_or, Bool.true_or, Bool.or_true, j_Intro_isEnough_0, b_Intro_isEnough_0, j_Intro_isEnough_36, b_Intro_isEnough_36, j_Intro_isEnough_55, b_Intro_isEnough_55, j_Intro_isEnough_56, b_Intro_isEnough_56, j_Intro_isEnough_57, b_Intro_isEnough_57, j_Intro_isEnough_136, b_Intro_isEnough_136, j_Intro_isEnough_142, b_Intro_isEnough_142, j_Intro_isEnough_148, b_Intro_isEnough_148, an_0, an_1, an_10, cl_0, cl_1, cl_10, ne_0_1, ne_1_0, pp_15_0, pp_15_7, sh_15, sh_29, sh_40, vi_0, vi_1, vi_10, l0, l1, l2, l3, l4, l6, sh_15, pp_15_0, sT0 ht, sT1 ht, sT2 ht, sT3 ht, sT4 ht, sT5 ht, sT6 ht, sT7 ht, sT8 ht, sT9 ht, pT1 ht, pT2 ht, pT3 ht, pT4 ht, pT5 ht, pT6 ht, pT7 ht, pT8 ht, pT9 ht, e, c1, nI_1]
          refine s78 a (by omega) (n - (a + 1)) (a + 1) _ (by omega) (by omega) ?_ ?_ ?_ ?_ ?_ ?_ ?_ ?_ ?_
          · simp [cp_s1_at, cp_nl_int, cp_nl_ref, l0]
          · simp [cp_s1_at, cp_nl_int, cp_nl_ref, l1]
          · simp [cp_s1_at, cp_nl_int, cp_nl_ref, l2]
          · simp [cp_s1_at, cp_nl_int, cp_nl_ref, l3]
          · simp [cp_s1_at, cp_nl_int, cp_nl_ref, l4]
          · simp [cp_s1_at, cp_nl_int, cp_nl_ref, l6]
          · simp [cp_s1_at]
          · intro p hp
            simp only [hp] at g1
            exact g1 p rfl
          · intro hp L' k0 k1 k2 k3 k4 k6
            simp only [hp] at g1 g0
            refine cp_run 20 (fun t => t == 60) ck_Intro_isEnough ?_
            simp only [cp_vc, cp_vs, cp_jm, cp_ent_en, cp_en_int, cp_en_ref, cp_en_ret, cp_en_long, cp_en_nil, cp_s1_at, cp_s2_at, cp_nl_int, cp_nl_ref, cp_nl_long, cp_nl_none, cp_pop_0, cp_pop_s, reduceIte, if_true, if_false, Bool.false_eq_true, Bool.true_eq_false, false_implies, implies_true, forall_const, true_implies, true_and, and_true, and_self, true_or, or_true, false_or, or_false, Value.category, List.length_cons, List.length_nil, Option.toList_some, Option.toList_none, List.cons_append, List.nil_append, List.append_nil, Prod.mk.injEq, Nat.add_zero, Nat.zero_add, Nat.reduceAdd, Nat.reduceSub, Nat.reduceEqDiff, Nat.reduceLeDiff, Nat.reduceLT, Nat.le_refl, beq_self_eq_true, Nat.reduceBEq, ne_eq, not_true_eq_false, not_false_eq_true, Int32.reduceAdd, Int32.reduceSub, Int32.reduceMul, Int32.reduceLE, Int32.reduceLT, Int32.reduceToNatClampNeg, b01_0, b01_1, ne_2_0, ne_3_0, ne_4_0, ne_5_0, ne_6_0, ne_m1_0, ne_m2_0, b01_01, b01_n, lt_m2, lt_m1, le_m2, le_m1, Classical.not_not, j_Intro_isEnough_0, b_Intro_isEnough_0, j_Intro_isEnough_36, b_Intro_isEnough_36, j_Intro_isEnough_55, b_Intro_isEnough_55, j_Intro_isEnough_56, b_Intro_isEnough_56, j_Intro_isEnough_57, b_Intro_isEnough_57, j_Intro_isEnough_78, b_Intro_isEnough_78, j_Intro_isEnough_136, b_Intro_isEnough_136, j_Intro_isEnough_142, b_Intro_isEnough_142, j_Intro_isEnough_148, b_Intro_isEnough_148, an_0, an_1, an_10, cl_0, cl_1, cl_10, ne_0_1, ne_1_0, pp_15_0, pp_15_7, sh_15, sh_29, sh_40, vi_0, vi_1, vi_10, k0, k1, k2, k3, k4, k6, nI_1]
            refine ihk (a + 1) _ (by omega) ?_ ?_ ?_ ?_ ?_ ?_ g1 g0 <;> simp [cp_s1_at, cp_nl_int, cp_nl_ref, k0, k1, k2, k3, k4]
      refine s60 n 0 _ (by omega) ?_ ?_ ?_ ?_ ?_ ?_ ?_ ?_
      · simp [cp_s1_at, cp_ent_en, cp_en_ref, cp_en_int, cp_nl_ref, cp_nl_int]
      · simp [cp_s1_at, cp_ent_en, cp_en_ref, cp_en_int, cp_nl_ref, cp_nl_int]
      · simp [cp_s1_at, cp_ent_en, cp_en_ref, cp_en_int, cp_nl_ref, cp_nl_int]
      · simp [cp_s1_at, cp_ent_en, cp_en_ref, cp_en_int, cp_nl_ref, cp_nl_int]
      · simp [cp_s1_at, cp_ent_en, cp_en_ref, cp_en_int, cp_nl_ref, cp_nl_int]
      · simp [cp_s1_at, nI_0]
      · intro p hp
        exact h1 (some p) (by rw [hp]; rfl)
      · intro hp
        exact h0 (by rw [hp]; rfl)
    · have c' : mx0 (w + nI (m + 1) * (I t 1 + 1)) < I 29 set := by rw [i2] at c; rw [i1]; omega
      rw [if_pos c'] at h0
      refine cp_run 60 (fun _ => false) ck_Intro_isEnough ?_
      simp only [cp_vc, cp_vs, cp_jm, cp_ent_en, cp_en_int, cp_en_ref, cp_en_ret, cp_en_long, cp_en_nil, cp_s1_at, cp_s2_at, cp_nl_int, cp_nl_ref, cp_nl_long, cp_nl_none, cp_pop_0, cp_pop_s, reduceIte, if_true, if_false, Bool.false_eq_true, Bool.true_eq_false, false_implies, implies_true, forall_const, true_implies, true_and, and_true, and_self, true_or, or_true, false_or, or_false, Value.category, List.length_cons, List.length_nil, Option.toList_some, Option.toList_none, List.cons_append, List.nil_append, List.append_nil, Prod.mk.injEq, Nat.add_zero, Nat.zero_add, Nat.reduceAdd, Nat.reduceSub, Nat.reduceEqDiff, Nat.reduceLeDiff, Nat.reduceLT, Nat.le_refl, beq_self_eq_true, Nat.reduceBEq, ne_eq, not_true_eq_false, not_false_eq_true, Int32.reduceAdd, Int32.reduceSub, Int32.reduceMul, Int32.reduceLE, Int32.reduceLT, Int32.reduceToNatClampNeg, b01_0, b01_1, ne_2_0, ne_3_0, ne_4_0, ne_5_0, ne_6_0, ne_m1_0, ne_m2_0, b01_01, b01_n, lt_m2, lt_m1, le_m2, le_m1, Classical.not_not, j_Intro_isEnough_0, b_Intro_isEnough_0, j_Intro_isEnough_36, b_Intro_isEnough_36, j_Intro_isEnough_55, b_Intro_isEnough_55, j_Intro_isEnough_56, b_Intro_isEnough_56, j_Intro_isEnough_57, b_Intro_isEnough_57, j_Intro_isEnough_60, b_Intro_isEnough_60, j_Intro_isEnough_78, b_Intro_isEnough_78, j_Intro_isEnough_136, b_Intro_isEnough_136, j_Intro_isEnough_142, b_Intro_isEnough_142, j_Intro_isEnough_148, b_Intro_isEnough_148, an_0, an_1, an_10, cl_0, cl_1, cl_10, ne_0_1, ne_1_0, pp_15_0, pp_15_7, sh_15, sh_29, sh_40, vi_0, vi_1, vi_10, cp_s1_at, cp_ent_en, cp_en_ref, cp_en_int, cp_nl_ref, cp_nl_int, sh_15, vin (show set < 64 by omega) (by omega), ncl (show set < 1000 by omega), e29, emx, c']
      exact h0 rfl
end Intro2
