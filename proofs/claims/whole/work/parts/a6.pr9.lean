section Pr9
variable {g : cp_G} {d : Nat} {I M N : cp_I} {J : cp_J} {Q : cp_QT} {t u r x n s m : Nat}
theorem pw16 {um : Nat} (h : um ≤ 4) : 2 ^ um ≤ 16 := Nat.pow_le_pow_right (n := 2) (by omega) h
theorem fb_pc {f um : Nat} {F : Nat → Bool} (hu : um ≤ 4) (hf : ∀ k, f.testBit k = (decide (k < 2 ^ um) && F k)) : pc16 f = sp_cnt F (2 ^ um) 0 0 := by
  have h16 := pw16 hu
  unfold pc16
  rw [show (16 : Nat) = 2 ^ um + (16 - 2 ^ um) by omega, cnt_app, cnt_no (16 - 2 ^ um) _ _ (fun j h1 h2 => by rw [hf, decide_eq_false (by omega), Bool.false_and])]
  exact cnt_cong _ 0 0 (fun j _ h2 => by rw [hf, decide_eq_true (by omega), Bool.true_and])
theorem fb_wt {f um p : Nat} {F : Nat → Bool} (hf : ∀ k, f.testBit k = (decide (k < 2 ^ um) && F k)) : cwt f um p = sp_cnt (fun s => F s && s.testBit p) (2 ^ um) 0 0 := cnt_cong _ 0 0 (fun j _ h2 => by rw [hf, decide_eq_true (by omega), Bool.true_and])
theorem fb_0 {f um : Nat} {F : Nat → Bool} (hf : ∀ k, f.testBit k = (decide (k < 2 ^ um) && F k)) : f = 0 ↔ sp_cnt F (2 ^ um) 0 0 = 0 := by
  constructor
  · rintro rfl
    refine cnt_no _ 0 0 (fun j _ hj => ?_)
    have := hf j
    rw [Nat.zero_testBit, decide_eq_true (by omega), Bool.true_and] at this
    exact this.symm
  · intro h
    apply Nat.eq_of_testBit_eq
    intro i
    rw [Nat.zero_testBit, hf]
    by_cases c : i < 2 ^ um
    · cases e : F i with
      | false => simp
      | true =>
        have := (cnt_pos (p := F) (2 ^ um) 0).mpr ⟨i, by omega, by omega, e⟩
        omega
    · rw [decide_eq_false c, Bool.false_and]
theorem fb_le {f um p : Nat} {F : Nat → Bool} (hu : um ≤ 4) (hf : ∀ k, f.testBit k = (decide (k < 2 ^ um) && F k)) : cwt f um p ≤ pc16 f := by
  rw [fb_pc hu hf, fb_wt hf]
  exact cnt_le2 (fun j hj => by rw [Bool.and_eq_true] at hj; exact hj.1) _ 0 0
theorem cfi_bit {c um tm : Nat} {ua ub fs : Nat → Nat} (k : Nat) : (cfi I c n um tm ua ub fs).testBit k = (decide (k < 2 ^ um) && cft I c n um tm ua ub fs k) := sp_set_bit _ _ _
def skq (F : Nat → Bool) (um : Nat) (w : Int32) : skT := fo (sk1 F w) (2 ^ um) 0 (0, -1, 0, 2 ^ um - 1, fun _ => 0)
theorem fb_some {f um : Nat} {F : Nat → Bool} {w : Int32} (hf : ∀ k, f.testBit k = (decide (k < 2 ^ um) && F k)) : (skq F um w).2.2.1 = sp_set um (fun p => decide (0 < cwt f um p)) := by
  apply Nat.eq_of_testBit_eq
  intro i
  rw [sp_set_bit, fb_wt hf, Bool.eq_iff_iff, Bool.and_eq_true, decide_eq_true_eq, decide_eq_true_eq, cnt_pos]
  unfold skq
  rw [sk_3]
  constructor
  · rintro (h | ⟨z, h1, h2, h3⟩)
    · rw [show ((0, -1, 0, 2 ^ um - 1, fun _ => 0) : skT).2.2.1 = 0 from rfl, Nat.zero_testBit] at h
      cases h
    · refine ⟨?_, z, h1, h2, h3⟩
      rw [Bool.and_eq_true] at h3
      exact bit_n (show z < 2 ^ um by omega) h3.2
  · rintro ⟨-, z, h1, h2, h3⟩
    exact Or.inr ⟨z, h1, h2, h3⟩
theorem fb_all {f um : Nat} {F : Nat → Bool} {w : Int32} (hu : um ≤ 4) (hf : ∀ k, f.testBit k = (decide (k < 2 ^ um) && F k)) : (skE (skq F um w)).2.2.2.1 = sp_set um (fun p => decide (0 < pc16 f) && decide (cwt f um p = pc16 f)) := by
  have e1 : (skq F um w).1 = sp_cnt F (2 ^ um) 0 0 := sk_1 _ _ _
  show (if (skq F um w).1 = 0 then 0 else (skq F um w).2.2.2.1) = _
  rw [e1]
  apply Nat.eq_of_testBit_eq
  intro i
  rw [sp_set_bit, fb_pc hu hf, fb_wt hf]
  by_cases c : sp_cnt F (2 ^ um) 0 0 = 0
  · rw [if_pos c, Nat.zero_testBit, c]
    simp
  · rw [if_neg c, Bool.eq_iff_iff]
    simp only [Bool.and_eq_true, decide_eq_true_eq]
    unfold skq
    rw [sk_4]
    have sp := cnt_split (p := F) (q := fun s => s.testBit i) (2 ^ um) 0 0 0
    rw [Nat.add_zero] at sp
    have z0 := cnt_pos (p := fun s => F s && !s.testBit i) (2 ^ um) 0
    have hi : ((0, -1, 0, 2 ^ um - 1, fun _ => 0) : skT).2.2.2.1.testBit i = true ↔ i < um := by
      show (2 ^ um - 1).testBit i = true ↔ i < um
      rw [Nat.testBit_two_pow_sub_one, decide_eq_true_eq]
    rw [hi]
    constructor
    · rintro ⟨h1, h2⟩
      refine ⟨h1, by omega, ?_⟩
      have : ¬ 0 < sp_cnt (fun s => F s && !s.testBit i) (2 ^ um) 0 0 := fun q => by
        obtain ⟨z, z1, z2, z3⟩ := z0.mp q
        rw [Bool.and_eq_true] at z3
        have := h2 z z1 z2 z3.1
        rw [this] at z3
        exact absurd z3.2 (by decide)
      omega
    · rintro ⟨h1, -, h3⟩
      refine ⟨h1, fun z z1 z2 z3 => ?_⟩
      cases e : z.testBit i with
      | true => rfl
      | false =>
        have := z0.mpr ⟨z, z1, z2, by simp [z3, e]⟩
        omega
theorem fb_lv {f um k : Nat} {F : Nat → Bool} {w : Int32} (hu : um ≤ 4) (hf : ∀ k, f.testBit k = (decide (k < 2 ^ um) && F k)) : lv (skq F um w) k = clm f um k := by
  have e1 : (skq F um w).1 = sp_cnt F (2 ^ um) 0 0 := sk_1 _ _ _
  have e5 : (skq F um w).2.2.2.2 k = sp_cnt (fun s => F s && s.testBit k) (2 ^ um) 0 0 := sk_5 _ _ _
  unfold lv clm
  rw [e1, e5, fb_pc hu hf, fb_wt hf]
  split <;> omega
theorem fb_ask {f um : Nat} {F : Nat → Bool} {w : Int32} (hu : um ≤ 4) (hf : ∀ k, f.testBit k = (decide (k < 2 ^ um) && F k)) : (if (skq F um w).1 = 0 then none else fo (ak (skq F um w)) um 0 none) = cak f um := by
  have e1 : (skq F um w).1 = sp_cnt F (2 ^ um) 0 0 := sk_1 _ _ _
  unfold cak
  rw [e1]
  by_cases c : sp_cnt F (2 ^ um) 0 0 = 0
  · rw [if_pos c, if_pos ((fb_0 hf).mpr c)]
  · rw [if_neg c, if_neg (fun z => c ((fb_0 hf).mp z))]
    unfold ak
    exact bst_cong (N := um) (fun _ _ => rfl) (fun b c _ _ => by rw [fb_lv hu hf, fb_lv hu hf]) um 0 none (by omega) (fun c hc => by cases hc)
theorem kp_skF {q : skT} (h : skF I M q) : kp I M := by
  refine ⟨fun a ha => funext fun j => ?_, fun j hj => ?_, fun j hj => ?_⟩
  · have := wc_ne ha
    exact h.1 a j (by omega) (by omega) (by omega)
  · unfold k44 at hj
    exact h.1 44 j (by omega) (by omega) (by omega)
  · exact h.1 0 j (by omega) (by omega) (by omega)
theorem skF_g {q : skT} {v : Int32} (h0 : Iv0 I t u n s m) (h : skF (gd (rfu I 0)) M q) : Iv M t u := iv_gk h0 (kp_rfu kp_r 0) rfu_2 (kp_skF h) (h.1 0 2 (by omega) (by omega) (by omega)) (h.1 44 11 (by omega) (by omega) (by omega))
theorem rfu47 (v : Int32) : rfu I v 47 = I 47 := funext fun j => rfu_o (by omega) j
theorem iv_Uw (h0 : Iv0 I t u n s m) (v : Int32) : ∃ um tm, um ≤ 4 ∧ rU (rfu I v) um tm (tua (I 47)) (tub (I 47)) (tfs (I 47)) ∧ cU (rfu I v) t um tm (tua (I 47)) (tub (I 47)) (tfs (I 47)) ∧ (I 47 7).toNatClampNeg = um ∧ (I 47 8).toNatClampNeg = tm := by
  have h := iv_U (iv_rf h0 v).1
  rw [rfu47] at h
  obtain ⟨um, tm, h1, h2, h3, h4, -⟩ := h
  exact ⟨um, tm, h1.1.2, h1, h2, h3, h4⟩
theorem cft_w (h0 : Iv0 I t u n s m) (v : Int32) {um tm : Nat} (c7 : (I 47 7).toNatClampNeg = um) (c8 : (I 47 8).toNatClampNeg = tm) : cft (rfu I v) t n um tm (tua (I 47)) (tub (I 47)) (tfs (I 47)) = rft (rfu I v) n um tm (tua (I 47)) (tub (I 47)) (tfs (I 47)) := by
  have h := iv_cft (iv_rf h0 v).1 (um := um) (tm := tm) (by rw [rfu47]; exact c7) (by rw [rfu47]; exact c8)
  rw [rfu47] at h
  exact h
theorem wf_w (h0 : Iv0 I t u n s m) (v : Int32) {um tm : Nat} (c7 : (I 47 7).toNatClampNeg = um) (c8 : (I 47 8).toNatClampNeg = tm) (kn : Nat) (ch : Int32) : cfu (rfu I v) t n um tm (tua (I 47)) (tub (I 47)) (tfs (I 47)) kn ch tm 0 = sp_wf (trm (rfu I v) um (tua (I 47)) (tub (I 47)) kn) n tm (tfs (I 47)) ch := by
  have h := iv_wf (iv_rf h0 v).1 (um := um) (tm := tm) (by rw [rfu47]; exact c7) (by rw [rfu47]; exact c8) kn ch
  rw [rfu47] at h
  exact h
theorem fbw (h0 : Iv0 I t u n s m) (v : Int32) {um tm : Nat} (c7 : (I 47 7).toNatClampNeg = um) (c8 : (I 47 8).toNatClampNeg = tm) (k : Nat) : (cfi (rfu I v) t n um tm (tua (I 47)) (tub (I 47)) (tfs (I 47))).testBit k = (decide (k < 2 ^ um) && rft (rfu I v) n um tm (tua (I 47)) (tub (I 47)) (tfs (I 47)) k) := by rw [cfi_bit, cft_w h0 v c7 c8]
theorem pr_fits (h : Iv I t u) : PR g d m_CP_fits m_Mod_fits [] I J t u r x := by
  obtain ⟨⟨n, s, m, h0⟩, -, -⟩ := h
  have hB := h0.1
  have ht := iv_tk hB
  have b0 := (iv_rf h0 1).1
  have b1 := (iv_rf h0 0).1
  obtain ⟨um, tm, hum, hU, hC, c7, c8⟩ := iv_Uw h0 0
  obtain ⟨um', tm', -, hU', -, -, -⟩ := iv_Uw h0 1
  have hf := fbw h0 0 c7 c8
  unfold PR
  refine MW.of ok_CP_fits (Nat.le_of_ble_eq_true rfl) ?_
  refine cp_run 40 (fun _ => false) ck_CP_fits ?_
  simp only [cp_vc, cp_vs, cp_jm, cp_ent_en, cp_en_int, cp_en_ref, cp_en_ret, cp_en_long, cp_en_nil, cp_s1_at, cp_s2_at, cp_nl_int, cp_nl_ref, cp_nl_long, cp_nl_none, cp_pop_0, cp_pop_s, reduceIte, if_true, if_false, Bool.false_eq_true, Bool.true_eq_false, false_implies, implies_true, forall_const, true_implies, true_and, and_true, and_self, true_or, or_true, false_or, or_false, Value.category, List.length_cons, List.length_nil, Option.toList_some, Option.toList_none, List.cons_append, List.nil_append, List.append_nil, Prod.mk.injEq, Nat.add_zero, Nat.zero_add, Nat.reduceAdd, Nat.reduceSub, Nat.reduceEqDiff, Nat.reduceLeDiff, Nat.reduceLT, Nat.le_refl, beq_self_eq_true, Nat.reduceBEq, ne_eq, not_true_eq_false, not_false_eq_true, Int32.reduceAdd, Int32.reduceSub, Int32.reduceMul, Int32.reduceLE, Int32.reduceLT, Int32.reduceToNatClampNeg, b01_0, b01_1, ne_2_0, ne_3_0, ne_4_0, ne_5_0, ne_6_0, ne_m1_0, ne_m2_0, b01_01, b01_n, lt_m2, lt_m1, le_m2, le_m1, Classical.not_not, j_CP_fits_0, b_CP_fits_0, j_CP_fits_27, b_CP_fits_27, j_CP_fits_28, b_CP_fits_28, an_0, an_1, ne_0_1, ne_0_m1, ne_1_0, ne_1_m1, ne_m1_0, ne_m1_1, pp_0_12, pp_0_7, pp_15_0, sh_0, sh_15, sh_42]
  refine c_CP_isTold (n := n) (iv_tk hB) (iv_n6 hB) (iv_cn hB) ?_ ?_
  · intro hn
    simp only [cp_kk, cp_vc, cp_vs, cp_jm, cp_ent_en, cp_en_int, cp_en_ref, cp_en_ret, cp_en_long, cp_en_nil, cp_s1_at, cp_s2_at, cp_nl_int, cp_nl_ref, cp_nl_long, cp_nl_none, cp_pop_0, cp_pop_s, reduceIte, if_true, if_false, Bool.false_eq_true, Bool.true_eq_false, false_implies, implies_true, forall_const, true_implies, true_and, and_true, and_self, true_or, or_true, false_or, or_false, Value.category, List.length_cons, List.length_nil, Option.toList_some, Option.toList_none, List.cons_append, List.nil_append, List.append_nil, Prod.mk.injEq, Nat.add_zero, Nat.zero_add, Nat.reduceAdd, Nat.reduceSub, Nat.reduceEqDiff, Nat.reduceLeDiff, Nat.reduceLT, Nat.le_refl, beq_self_eq_true, Nat.reduceBEq, ne_eq, not_true_eq_false, not_false_eq_true, Int32.reduceAdd, Int32.reduceSub, Int32.reduceMul, Int32.reduceLE, Int32.reduceLT, Int32.reduceToNatClampNeg, b01_0, b01_1, ne_2_0, ne_3_0, ne_4_0, ne_5_0, ne_6_0, ne_m1_0, ne_m2_0, b01_01, b01_n, lt_m2, lt_m1, le_m2, le_m1, Classical.not_not, Bool.or_false, Bool.false_or, Bool.true_or, Bool.or_true, j_CP_fits_0, b_CP_fits_0, j_CP_fits_27, b_CP_fits_27, j_CP_fits_28, b_CP_fits_28, an_0, an_1, ne_0_1, ne_0_m1, ne_1_0, ne_1_m1, ne_m1_0, ne_m1_1, pp_0_12, pp_0_7, pp_15_0, sh_0, sh_15, sh_42, pp_15_0, sT0 ht, sT1 ht, sT2 ht, sT3 ht, sT4 ht, sT5 ht, sT6 ht, sT7 ht, sT8 ht, sT9 ht, pT1 ht, pT2 ht, pT3 ht, pT4 ht, pT5 ht, pT6 ht, pT7 ht, pT8 ht, pT9 ht]
    refine c_Mem_fitting (iv_tk b1) (iv_n6 b1) (iv_cn b1) hC ?_
    simp only [cp_kk, cp_vc, cp_vs, cp_jm, cp_ent_en, cp_en_int, cp_en_ref, cp_en_ret, cp_en_long, cp_en_nil, cp_s1_at, cp_s2_at, cp_nl_int, cp_nl_ref, cp_nl_long, cp_nl_none, cp_pop_0, cp_pop_s, reduceIte, if_true, if_false, Bool.false_eq_true, Bool.true_eq_false, false_implies, implies_true, forall_const, true_implies, true_and, and_true, and_self, true_or, or_true, false_or, or_false, Value.category, List.length_cons, List.length_nil, Option.toList_some, Option.toList_none, List.cons_append, List.nil_append, List.append_nil, Prod.mk.injEq, Nat.add_zero, Nat.zero_add, Nat.reduceAdd, Nat.reduceSub, Nat.reduceEqDiff, Nat.reduceLeDiff, Nat.reduceLT, Nat.le_refl, beq_self_eq_true, Nat.reduceBEq, ne_eq, not_true_eq_false, not_false_eq_true, Int32.reduceAdd, Int32.reduceSub, Int32.reduceMul, Int32.reduceLE, Int32.reduceLT, Int32.reduceToNatClampNeg, b01_0, b01_1, ne_2_0, ne_3_0, ne_4_0, ne_5_0, ne_6_0, ne_m1_0, ne_m2_0, b01_01, b01_n, lt_m2, lt_m1, le_m2, le_m1, Classical.not_not, Bool.or_false, Bool.false_or, Bool.true_or, Bool.or_true, j_CP_fits_0, b_CP_fits_0, j_CP_fits_27, b_CP_fits_27, j_CP_fits_28, b_CP_fits_28, an_0, an_1, ne_0_1, ne_0_m1, ne_1_0, ne_1_m1, ne_m1_0, ne_m1_1, pp_0_12, pp_0_7, pp_15_0, sh_0, sh_15, sh_42]
    refine c_bitCount16 (cfi_lt hum) ?_
    simp only [cp_kk, cp_vc, cp_vs, cp_jm, cp_ent_en, cp_en_int, cp_en_ref, cp_en_ret, cp_en_long, cp_en_nil, cp_s1_at, cp_s2_at, cp_nl_int, cp_nl_ref, cp_nl_long, cp_nl_none, cp_pop_0, cp_pop_s, reduceIte, if_true, if_false, Bool.false_eq_true, Bool.true_eq_false, false_implies, implies_true, forall_const, true_implies, true_and, and_true, and_self, true_or, or_true, false_or, or_false, Value.category, List.length_cons, List.length_nil, Option.toList_some, Option.toList_none, List.cons_append, List.nil_append, List.append_nil, Prod.mk.injEq, Nat.add_zero, Nat.zero_add, Nat.reduceAdd, Nat.reduceSub, Nat.reduceEqDiff, Nat.reduceLeDiff, Nat.reduceLT, Nat.le_refl, beq_self_eq_true, Nat.reduceBEq, ne_eq, not_true_eq_false, not_false_eq_true, Int32.reduceAdd, Int32.reduceSub, Int32.reduceMul, Int32.reduceLE, Int32.reduceLT, Int32.reduceToNatClampNeg, b01_0, b01_1, ne_2_0, ne_3_0, ne_4_0, ne_5_0, ne_6_0, ne_m1_0, ne_m2_0, b01_01, b01_n, lt_m2, lt_m1, le_m2, le_m1, Classical.not_not, Bool.or_false, Bool.false_or, Bool.true_or, Bool.or_true, j_CP_fits_0, b_CP_fits_0, j_CP_fits_27, b_CP_fits_27, j_CP_fits_28, b_CP_fits_28, an_0, an_1, ne_0_1, ne_0_m1, ne_1_0, ne_1_m1, ne_m1_0, ne_m1_1, pp_0_12, pp_0_7, pp_15_0, sh_0, sh_15, sh_42]
    refine mid_i ?_
    refine c_Mod_fits (iv_n6 b1) (iv_n b1) hU ?_ ?_
    · intro _ M hM
      exact fin_i (congrArg nI ((sk_1 _ _ _).trans (fb_pc hum hf).symm)) (skF_g (v := 0) h0 hM)
    · intro e
      exact absurd e (iv_p1 b1 hn)
  · intro hn
    simp only [cp_kk, cp_vc, cp_vs, cp_jm, cp_ent_en, cp_en_int, cp_en_ref, cp_en_ret, cp_en_long, cp_en_nil, cp_s1_at, cp_s2_at, cp_nl_int, cp_nl_ref, cp_nl_long, cp_nl_none, cp_pop_0, cp_pop_s, reduceIte, if_true, if_false, Bool.false_eq_true, Bool.true_eq_false, false_implies, implies_true, forall_const, true_implies, true_and, and_true, and_self, true_or, or_true, false_or, or_false, Value.category, List.length_cons, List.length_nil, Option.toList_some, Option.toList_none, List.cons_append, List.nil_append, List.append_nil, Prod.mk.injEq, Nat.add_zero, Nat.zero_add, Nat.reduceAdd, Nat.reduceSub, Nat.reduceEqDiff, Nat.reduceLeDiff, Nat.reduceLT, Nat.le_refl, beq_self_eq_true, Nat.reduceBEq, ne_eq, not_true_eq_false, not_false_eq_true, Int32.reduceAdd, Int32.reduceSub, Int32.reduceMul, Int32.reduceLE, Int32.reduceLT, Int32.reduceToNatClampNeg, b01_0, b01_1, ne_2_0, ne_3_0, ne_4_0, ne_5_0, ne_6_0, ne_m1_0, ne_m2_0, b01_01, b01_n, lt_m2, lt_m1, le_m2, le_m1, Classical.not_not, Bool.or_false, Bool.false_or, Bool.true_or, Bool.or_true, j_CP_fits_0, b_CP_fits_0, j_CP_fits_27, b_CP_fits_27, j_CP_fits_28, b_CP_fits_28, an_0, an_1, ne_0_1, ne_0_m1, ne_1_0, ne_1_m1, ne_m1_0, ne_m1_1, pp_0_12, pp_0_7, pp_15_0, sh_0, sh_15, sh_42]
    refine mid_i ?_
    refine c_Mod_fits (iv_n6 b0) (iv_n b0) hU' ?_ ?_
    · intro e
      exact absurd (iv_p0 b0 hn) e
    · intro _
      exact fin_i rfl (iv_rn h0 n14)
theorem pr_could (h : Iv I t u) : PR g d m_CP_could m_Mod_could [] I J t u r x := by
  obtain ⟨⟨n, s, m, h0⟩, -, -⟩ := h
  have hB := h0.1
  have ht := iv_tk hB
  have b0 := (iv_rf h0 1).1
  have b1 := (iv_rf h0 0).1
  obtain ⟨um, tm, hum, hU, hC, c7, c8⟩ := iv_Uw h0 0
  obtain ⟨um', tm', -, hU', -, -, -⟩ := iv_Uw h0 1
  have hf := fbw h0 0 c7 c8
  unfold PR
  refine MW.of ok_CP_could (Nat.le_of_ble_eq_true rfl) ?_
  refine cp_run 40 (fun _ => false) ck_CP_could ?_
  simp only [cp_vc, cp_vs, cp_jm, cp_ent_en, cp_en_int, cp_en_ref, cp_en_ret, cp_en_long, cp_en_nil, cp_s1_at, cp_s2_at, cp_nl_int, cp_nl_ref, cp_nl_long, cp_nl_none, cp_pop_0, cp_pop_s, reduceIte, if_true, if_false, Bool.false_eq_true, Bool.true_eq_false, false_implies, implies_true, forall_const, true_implies, true_and, and_true, and_self, true_or, or_true, false_or, or_false, Value.category, List.length_cons, List.length_nil, Option.toList_some, Option.toList_none, List.cons_append, List.nil_append, List.append_nil, Prod.mk.injEq, Nat.add_zero, Nat.zero_add, Nat.reduceAdd, Nat.reduceSub, Nat.reduceEqDiff, Nat.reduceLeDiff, Nat.reduceLT, Nat.le_refl, beq_self_eq_true, Nat.reduceBEq, ne_eq, not_true_eq_false, not_false_eq_true, Int32.reduceAdd, Int32.reduceSub, Int32.reduceMul, Int32.reduceLE, Int32.reduceLT, Int32.reduceToNatClampNeg, b01_0, b01_1, ne_2_0, ne_3_0, ne_4_0, ne_5_0, ne_6_0, ne_m1_0, ne_m2_0, b01_01, b01_n, lt_m2, lt_m1, le_m2, le_m1, Classical.not_not, j_CP_could_0, b_CP_could_0, j_CP_could_24, b_CP_could_24, j_CP_could_25, b_CP_could_25, an_0, an_1, ne_0_1, ne_0_m1, ne_1_0, ne_1_m1, ne_m1_0, ne_m1_1, pp_0_12, pp_0_7, pp_15_0, sh_0, sh_15, sh_42]
  refine c_CP_isTold (n := n) (iv_tk hB) (iv_n6 hB) (iv_cn hB) ?_ ?_
  · intro hn
    simp only [cp_kk, cp_vc, cp_vs, cp_jm, cp_ent_en, cp_en_int, cp_en_ref, cp_en_ret, cp_en_long, cp_en_nil, cp_s1_at, cp_s2_at, cp_nl_int, cp_nl_ref, cp_nl_long, cp_nl_none, cp_pop_0, cp_pop_s, reduceIte, if_true, if_false, Bool.false_eq_true, Bool.true_eq_false, false_implies, implies_true, forall_const, true_implies, true_and, and_true, and_self, true_or, or_true, false_or, or_false, Value.category, List.length_cons, List.length_nil, Option.toList_some, Option.toList_none, List.cons_append, List.nil_append, List.append_nil, Prod.mk.injEq, Nat.add_zero, Nat.zero_add, Nat.reduceAdd, Nat.reduceSub, Nat.reduceEqDiff, Nat.reduceLeDiff, Nat.reduceLT, Nat.le_refl, beq_self_eq_true, Nat.reduceBEq, ne_eq, not_true_eq_false, not_false_eq_true, Int32.reduceAdd, Int32.reduceSub, Int32.reduceMul, Int32.reduceLE, Int32.reduceLT, Int32.reduceToNatClampNeg, b01_0, b01_1, ne_2_0, ne_3_0, ne_4_0, ne_5_0, ne_6_0, ne_m1_0, ne_m2_0, b01_01, b01_n, lt_m2, lt_m1, le_m2, le_m1, Classical.not_not, Bool.or_false, Bool.false_or, Bool.true_or, Bool.or_true, j_CP_could_0, b_CP_could_0, j_CP_could_24, b_CP_could_24, j_CP_could_25, b_CP_could_25, an_0, an_1, ne_0_1, ne_0_m1, ne_1_0, ne_1_m1, ne_m1_0, ne_m1_1, pp_0_12, pp_0_7, pp_15_0, sh_0, sh_15, sh_42, pp_15_0, sT0 ht, sT1 ht, sT2 ht, sT3 ht, sT4 ht, sT5 ht, sT6 ht, sT7 ht, sT8 ht, sT9 ht, pT1 ht, pT2 ht, pT3 ht, pT4 ht, pT5 ht, pT6 ht, pT7 ht, pT8 ht, pT9 ht]
    refine c_Mem_inSome (iv_tk b1) (iv_n6 b1) (iv_cn b1) hC ?_
    simp only [cp_kk, cp_vc, cp_vs, cp_jm, cp_ent_en, cp_en_int, cp_en_ref, cp_en_ret, cp_en_long, cp_en_nil, cp_s1_at, cp_s2_at, cp_nl_int, cp_nl_ref, cp_nl_long, cp_nl_none, cp_pop_0, cp_pop_s, reduceIte, if_true, if_false, Bool.false_eq_true, Bool.true_eq_false, false_implies, implies_true, forall_const, true_implies, true_and, and_true, and_self, true_or, or_true, false_or, or_false, Value.category, List.length_cons, List.length_nil, Option.toList_some, Option.toList_none, List.cons_append, List.nil_append, List.append_nil, Prod.mk.injEq, Nat.add_zero, Nat.zero_add, Nat.reduceAdd, Nat.reduceSub, Nat.reduceEqDiff, Nat.reduceLeDiff, Nat.reduceLT, Nat.le_refl, beq_self_eq_true, Nat.reduceBEq, ne_eq, not_true_eq_false, not_false_eq_true, Int32.reduceAdd, Int32.reduceSub, Int32.reduceMul, Int32.reduceLE, Int32.reduceLT, Int32.reduceToNatClampNeg, b01_0, b01_1, ne_2_0, ne_3_0, ne_4_0, ne_5_0, ne_6_0, ne_m1_0, ne_m2_0, b01_01, b01_n, lt_m2, lt_m1, le_m2, le_m1, Classical.not_not, Bool.or_false, Bool.false_or, Bool.true_or, Bool.or_true, j_CP_could_0, b_CP_could_0, j_CP_could_24, b_CP_could_24, j_CP_could_25, b_CP_could_25, an_0, an_1, ne_0_1, ne_0_m1, ne_1_0, ne_1_m1, ne_m1_0, ne_m1_1, pp_0_12, pp_0_7, pp_15_0, sh_0, sh_15, sh_42]
    refine mid_i ?_
    refine c_Mod_could (iv_n6 b1) (iv_n b1) hU ?_ ?_
    · intro _ M hM
      exact fin_i (congrArg nI (fb_some hf)) (skF_g (v := 0) h0 hM)
    · intro e
      exact absurd e (iv_p1 b1 hn)
  · intro hn
    simp only [cp_kk, cp_vc, cp_vs, cp_jm, cp_ent_en, cp_en_int, cp_en_ref, cp_en_ret, cp_en_long, cp_en_nil, cp_s1_at, cp_s2_at, cp_nl_int, cp_nl_ref, cp_nl_long, cp_nl_none, cp_pop_0, cp_pop_s, reduceIte, if_true, if_false, Bool.false_eq_true, Bool.true_eq_false, false_implies, implies_true, forall_const, true_implies, true_and, and_true, and_self, true_or, or_true, false_or, or_false, Value.category, List.length_cons, List.length_nil, Option.toList_some, Option.toList_none, List.cons_append, List.nil_append, List.append_nil, Prod.mk.injEq, Nat.add_zero, Nat.zero_add, Nat.reduceAdd, Nat.reduceSub, Nat.reduceEqDiff, Nat.reduceLeDiff, Nat.reduceLT, Nat.le_refl, beq_self_eq_true, Nat.reduceBEq, ne_eq, not_true_eq_false, not_false_eq_true, Int32.reduceAdd, Int32.reduceSub, Int32.reduceMul, Int32.reduceLE, Int32.reduceLT, Int32.reduceToNatClampNeg, b01_0, b01_1, ne_2_0, ne_3_0, ne_4_0, ne_5_0, ne_6_0, ne_m1_0, ne_m2_0, b01_01, b01_n, lt_m2, lt_m1, le_m2, le_m1, Classical.not_not, Bool.or_false, Bool.false_or, Bool.true_or, Bool.or_true, j_CP_could_0, b_CP_could_0, j_CP_could_24, b_CP_could_24, j_CP_could_25, b_CP_could_25, an_0, an_1, ne_0_1, ne_0_m1, ne_1_0, ne_1_m1, ne_m1_0, ne_m1_1, pp_0_12, pp_0_7, pp_15_0, sh_0, sh_15, sh_42]
    refine mid_i ?_
    refine c_Mod_could (iv_n6 b0) (iv_n b0) hU' ?_ ?_
    · intro e
      exact absurd (iv_p0 b0 hn) e
    · intro _
      exact fin_i rfl (iv_rn h0 n14)
theorem pr_surely (h : Iv I t u) : PR g d m_CP_surely m_Mod_surely [] I J t u r x := by
  obtain ⟨⟨n, s, m, h0⟩, -, -⟩ := h
  have hB := h0.1
  have ht := iv_tk hB
  have b0 := (iv_rf h0 1).1
  have b1 := (iv_rf h0 0).1
  obtain ⟨um, tm, hum, hU, hC, c7, c8⟩ := iv_Uw h0 0
  obtain ⟨um', tm', -, hU', -, -, -⟩ := iv_Uw h0 1
  have hf := fbw h0 0 c7 c8
  unfold PR
  refine MW.of ok_CP_surely (Nat.le_of_ble_eq_true rfl) ?_
  refine cp_run 40 (fun _ => false) ck_CP_surely ?_
  simp only [cp_vc, cp_vs, cp_jm, cp_ent_en, cp_en_int, cp_en_ref, cp_en_ret, cp_en_long, cp_en_nil, cp_s1_at, cp_s2_at, cp_nl_int, cp_nl_ref, cp_nl_long, cp_nl_none, cp_pop_0, cp_pop_s, reduceIte, if_true, if_false, Bool.false_eq_true, Bool.true_eq_false, false_implies, implies_true, forall_const, true_implies, true_and, and_true, and_self, true_or, or_true, false_or, or_false, Value.category, List.length_cons, List.length_nil, Option.toList_some, Option.toList_none, List.cons_append, List.nil_append, List.append_nil, Prod.mk.injEq, Nat.add_zero, Nat.zero_add, Nat.reduceAdd, Nat.reduceSub, Nat.reduceEqDiff, Nat.reduceLeDiff, Nat.reduceLT, Nat.le_refl, beq_self_eq_true, Nat.reduceBEq, ne_eq, not_true_eq_false, not_false_eq_true, Int32.reduceAdd, Int32.reduceSub, Int32.reduceMul, Int32.reduceLE, Int32.reduceLT, Int32.reduceToNatClampNeg, b01_0, b01_1, ne_2_0, ne_3_0, ne_4_0, ne_5_0, ne_6_0, ne_m1_0, ne_m2_0, b01_01, b01_n, lt_m2, lt_m1, le_m2, le_m1, Classical.not_not, j_CP_surely_0, b_CP_surely_0, j_CP_surely_24, b_CP_surely_24, j_CP_surely_25, b_CP_surely_25, an_0, an_1, ne_0_1, ne_0_m1, ne_1_0, ne_1_m1, ne_m1_0, ne_m1_1, pp_0_12, pp_0_7, pp_15_0, sh_0, sh_15, sh_42]
  refine c_CP_isTold (n := n) (iv_tk hB) (iv_n6 hB) (iv_cn hB) ?_ ?_
  · intro hn
    simp only [cp_kk, cp_vc, cp_vs, cp_jm, cp_ent_en, cp_en_int, cp_en_ref, cp_en_ret, cp_en_long, cp_en_nil, cp_s1_at, cp_s2_at, cp_nl_int, cp_nl_ref, cp_nl_long, cp_nl_none, cp_pop_0, cp_pop_s, reduceIte, if_true, if_false, Bool.false_eq_true, Bool.true_eq_false, false_implies, implies_true, forall_const, true_implies, true_and, and_true, and_self, true_or, or_true, false_or, or_false, Value.category, List.length_cons, List.length_nil, Option.toList_some, Option.toList_none, List.cons_append, List.nil_append, List.append_nil, Prod.mk.injEq, Nat.add_zero, Nat.zero_add, Nat.reduceAdd, Nat.reduceSub, Nat.reduceEqDiff, Nat.reduceLeDiff, Nat.reduceLT, Nat.le_refl, beq_self_eq_true, Nat.reduceBEq, ne_eq, not_true_eq_false, not_false_eq_true, Int32.reduceAdd, Int32.reduceSub, Int32.reduceMul, Int32.reduceLE, Int32.reduceLT, Int32.reduceToNatClampNeg, b01_0, b01_1, ne_2_0, ne_3_0, ne_4_0, ne_5_0, ne_6_0, ne_m1_0, ne_m2_0, b01_01, b01_n, lt_m2, lt_m1, le_m2, le_m1, Classical.not_not, Bool.or_false, Bool.false_or, Bool.true_or, Bool.or_true, j_CP_surely_0, b_CP_surely_0, j_CP_surely_24, b_CP_surely_24, j_CP_surely_25, b_CP_surely_25, an_0, an_1, ne_0_1, ne_0_m1, ne_1_0, ne_1_m1, ne_m1_0, ne_m1_1, pp_0_12, pp_0_7, pp_15_0, sh_0, sh_15, sh_42, pp_15_0, sT0 ht, sT1 ht, sT2 ht, sT3 ht, sT4 ht, sT5 ht, sT6 ht, sT7 ht, sT8 ht, sT9 ht, pT1 ht, pT2 ht, pT3 ht, pT4 ht, pT5 ht, pT6 ht, pT7 ht, pT8 ht, pT9 ht]
    refine c_Mem_inAll (iv_tk b1) (iv_n6 b1) (iv_cn b1) hC ?_
    simp only [cp_kk, cp_vc, cp_vs, cp_jm, cp_ent_en, cp_en_int, cp_en_ref, cp_en_ret, cp_en_long, cp_en_nil, cp_s1_at, cp_s2_at, cp_nl_int, cp_nl_ref, cp_nl_long, cp_nl_none, cp_pop_0, cp_pop_s, reduceIte, if_true, if_false, Bool.false_eq_true, Bool.true_eq_false, false_implies, implies_true, forall_const, true_implies, true_and, and_true, and_self, true_or, or_true, false_or, or_false, Value.category, List.length_cons, List.length_nil, Option.toList_some, Option.toList_none, List.cons_append, List.nil_append, List.append_nil, Prod.mk.injEq, Nat.add_zero, Nat.zero_add, Nat.reduceAdd, Nat.reduceSub, Nat.reduceEqDiff, Nat.reduceLeDiff, Nat.reduceLT, Nat.le_refl, beq_self_eq_true, Nat.reduceBEq, ne_eq, not_true_eq_false, not_false_eq_true, Int32.reduceAdd, Int32.reduceSub, Int32.reduceMul, Int32.reduceLE, Int32.reduceLT, Int32.reduceToNatClampNeg, b01_0, b01_1, ne_2_0, ne_3_0, ne_4_0, ne_5_0, ne_6_0, ne_m1_0, ne_m2_0, b01_01, b01_n, lt_m2, lt_m1, le_m2, le_m1, Classical.not_not, Bool.or_false, Bool.false_or, Bool.true_or, Bool.or_true, j_CP_surely_0, b_CP_surely_0, j_CP_surely_24, b_CP_surely_24, j_CP_surely_25, b_CP_surely_25, an_0, an_1, ne_0_1, ne_0_m1, ne_1_0, ne_1_m1, ne_m1_0, ne_m1_1, pp_0_12, pp_0_7, pp_15_0, sh_0, sh_15, sh_42]
    refine mid_i ?_
    refine c_Mod_surely (iv_n6 b1) (iv_n b1) hU ?_ ?_
    · intro _ M hM
      exact fin_i (congrArg nI (fb_all hum hf)) (skF_g (v := 0) h0 hM)
    · intro e
      exact absurd e (iv_p1 b1 hn)
  · intro hn
    simp only [cp_kk, cp_vc, cp_vs, cp_jm, cp_ent_en, cp_en_int, cp_en_ref, cp_en_ret, cp_en_long, cp_en_nil, cp_s1_at, cp_s2_at, cp_nl_int, cp_nl_ref, cp_nl_long, cp_nl_none, cp_pop_0, cp_pop_s, reduceIte, if_true, if_false, Bool.false_eq_true, Bool.true_eq_false, false_implies, implies_true, forall_const, true_implies, true_and, and_true, and_self, true_or, or_true, false_or, or_false, Value.category, List.length_cons, List.length_nil, Option.toList_some, Option.toList_none, List.cons_append, List.nil_append, List.append_nil, Prod.mk.injEq, Nat.add_zero, Nat.zero_add, Nat.reduceAdd, Nat.reduceSub, Nat.reduceEqDiff, Nat.reduceLeDiff, Nat.reduceLT, Nat.le_refl, beq_self_eq_true, Nat.reduceBEq, ne_eq, not_true_eq_false, not_false_eq_true, Int32.reduceAdd, Int32.reduceSub, Int32.reduceMul, Int32.reduceLE, Int32.reduceLT, Int32.reduceToNatClampNeg, b01_0, b01_1, ne_2_0, ne_3_0, ne_4_0, ne_5_0, ne_6_0, ne_m1_0, ne_m2_0, b01_01, b01_n, lt_m2, lt_m1, le_m2, le_m1, Classical.not_not, Bool.or_false, Bool.false_or, Bool.true_or, Bool.or_true, j_CP_surely_0, b_CP_surely_0, j_CP_surely_24, b_CP_surely_24, j_CP_surely_25, b_CP_surely_25, an_0, an_1, ne_0_1, ne_0_m1, ne_1_0, ne_1_m1, ne_m1_0, ne_m1_1, pp_0_12, pp_0_7, pp_15_0, sh_0, sh_15, sh_42]
    refine mid_i ?_
    refine c_Mod_surely (iv_n6 b0) (iv_n b0) hU' ?_ ?_
    · intro e
      exact absurd (iv_p0 b0 hn) e
    · intro _
      exact fin_i rfl (iv_rn h0 n14)
theorem pr_ask (h : Iv I t u) : PR g d m_CP_ask m_Mod_ask [] I J t u r x := by
  obtain ⟨⟨n, s, m, h0⟩, -, -⟩ := h
  have hB := h0.1
  have ht := iv_tk hB
  have b0 := (iv_rf h0 1).1
  have b1 := (iv_rf h0 0).1
  obtain ⟨um, tm, hum, hU, hC, c7, c8⟩ := iv_Uw h0 0
  obtain ⟨um', tm', -, hU', -, -, -⟩ := iv_Uw h0 1
  have hf := fbw h0 0 c7 c8
  unfold PR
  refine MW.of ok_CP_ask (Nat.le_of_ble_eq_true rfl) ?_
  refine cp_run 40 (fun _ => false) ck_CP_ask ?_
  simp only [cp_vc, cp_vs, cp_jm, cp_ent_en, cp_en_int, cp_en_ref, cp_en_ret, cp_en_long, cp_en_nil, cp_s1_at, cp_s2_at, cp_nl_int, cp_nl_ref, cp_nl_long, cp_nl_none, cp_pop_0, cp_pop_s, reduceIte, if_true, if_false, Bool.false_eq_true, Bool.true_eq_false, false_implies, implies_true, forall_const, true_implies, true_and, and_true, and_self, true_or, or_true, false_or, or_false, Value.category, List.length_cons, List.length_nil, Option.toList_some, Option.toList_none, List.cons_append, List.nil_append, List.append_nil, Prod.mk.injEq, Nat.add_zero, Nat.zero_add, Nat.reduceAdd, Nat.reduceSub, Nat.reduceEqDiff, Nat.reduceLeDiff, Nat.reduceLT, Nat.le_refl, beq_self_eq_true, Nat.reduceBEq, ne_eq, not_true_eq_false, not_false_eq_true, Int32.reduceAdd, Int32.reduceSub, Int32.reduceMul, Int32.reduceLE, Int32.reduceLT, Int32.reduceToNatClampNeg, b01_0, b01_1, ne_2_0, ne_3_0, ne_4_0, ne_5_0, ne_6_0, ne_m1_0, ne_m2_0, b01_01, b01_n, lt_m2, lt_m1, le_m2, le_m1, Classical.not_not, j_CP_ask_0, b_CP_ask_0, j_CP_ask_24, b_CP_ask_24, j_CP_ask_25, b_CP_ask_25, an_0, an_1, ne_0_1, ne_0_m1, ne_1_0, ne_1_m1, ne_m1_0, ne_m1_1, pp_0_12, pp_0_7, pp_15_0, sh_0, sh_15, sh_42]
  refine c_CP_isTold (n := n) (iv_tk hB) (iv_n6 hB) (iv_cn hB) ?_ ?_
  · intro hn
    simp only [cp_kk, cp_vc, cp_vs, cp_jm, cp_ent_en, cp_en_int, cp_en_ref, cp_en_ret, cp_en_long, cp_en_nil, cp_s1_at, cp_s2_at, cp_nl_int, cp_nl_ref, cp_nl_long, cp_nl_none, cp_pop_0, cp_pop_s, reduceIte, if_true, if_false, Bool.false_eq_true, Bool.true_eq_false, false_implies, implies_true, forall_const, true_implies, true_and, and_true, and_self, true_or, or_true, false_or, or_false, Value.category, List.length_cons, List.length_nil, Option.toList_some, Option.toList_none, List.cons_append, List.nil_append, List.append_nil, Prod.mk.injEq, Nat.add_zero, Nat.zero_add, Nat.reduceAdd, Nat.reduceSub, Nat.reduceEqDiff, Nat.reduceLeDiff, Nat.reduceLT, Nat.le_refl, beq_self_eq_true, Nat.reduceBEq, ne_eq, not_true_eq_false, not_false_eq_true, Int32.reduceAdd, Int32.reduceSub, Int32.reduceMul, Int32.reduceLE, Int32.reduceLT, Int32.reduceToNatClampNeg, b01_0, b01_1, ne_2_0, ne_3_0, ne_4_0, ne_5_0, ne_6_0, ne_m1_0, ne_m2_0, b01_01, b01_n, lt_m2, lt_m1, le_m2, le_m1, Classical.not_not, Bool.or_false, Bool.false_or, Bool.true_or, Bool.or_true, j_CP_ask_0, b_CP_ask_0, j_CP_ask_24, b_CP_ask_24, j_CP_ask_25, b_CP_ask_25, an_0, an_1, ne_0_1, ne_0_m1, ne_1_0, ne_1_m1, ne_m1_0, ne_m1_1, pp_0_12, pp_0_7, pp_15_0, sh_0, sh_15, sh_42, pp_15_0, sT0 ht, sT1 ht, sT2 ht, sT3 ht, sT4 ht, sT5 ht, sT6 ht, sT7 ht, sT8 ht, sT9 ht, pT1 ht, pT2 ht, pT3 ht, pT4 ht, pT5 ht, pT6 ht, pT7 ht, pT8 ht, pT9 ht]
    refine c_Mem_ask (iv_tk b1) (iv_n6 b1) (iv_cn b1) hC (fun p _ => fb_le hum hf) ?_
    simp only [cp_kk, cp_vc, cp_vs, cp_jm, cp_ent_en, cp_en_int, cp_en_ref, cp_en_ret, cp_en_long, cp_en_nil, cp_s1_at, cp_s2_at, cp_nl_int, cp_nl_ref, cp_nl_long, cp_nl_none, cp_pop_0, cp_pop_s, reduceIte, if_true, if_false, Bool.false_eq_true, Bool.true_eq_false, false_implies, implies_true, forall_const, true_implies, true_and, and_true, and_self, true_or, or_true, false_or, or_false, Value.category, List.length_cons, List.length_nil, Option.toList_some, Option.toList_none, List.cons_append, List.nil_append, List.append_nil, Prod.mk.injEq, Nat.add_zero, Nat.zero_add, Nat.reduceAdd, Nat.reduceSub, Nat.reduceEqDiff, Nat.reduceLeDiff, Nat.reduceLT, Nat.le_refl, beq_self_eq_true, Nat.reduceBEq, ne_eq, not_true_eq_false, not_false_eq_true, Int32.reduceAdd, Int32.reduceSub, Int32.reduceMul, Int32.reduceLE, Int32.reduceLT, Int32.reduceToNatClampNeg, b01_0, b01_1, ne_2_0, ne_3_0, ne_4_0, ne_5_0, ne_6_0, ne_m1_0, ne_m2_0, b01_01, b01_n, lt_m2, lt_m1, le_m2, le_m1, Classical.not_not, Bool.or_false, Bool.false_or, Bool.true_or, Bool.or_true, j_CP_ask_0, b_CP_ask_0, j_CP_ask_24, b_CP_ask_24, j_CP_ask_25, b_CP_ask_25, an_0, an_1, ne_0_1, ne_0_m1, ne_1_0, ne_1_m1, ne_m1_0, ne_m1_1, pp_0_12, pp_0_7, pp_15_0, sh_0, sh_15, sh_42]
    refine mid_i ?_
    refine c_Mod_ask (iv_n6 b1) (iv_n b1) hU ?_ ?_
    · intro _ M hM
      exact fin_i (congrArg oI (fb_ask hum hf)) (skF_g (v := 0) h0 hM)
    · intro e
      exact absurd e (iv_p1 b1 hn)
  · intro hn
    simp only [cp_kk, cp_vc, cp_vs, cp_jm, cp_ent_en, cp_en_int, cp_en_ref, cp_en_ret, cp_en_long, cp_en_nil, cp_s1_at, cp_s2_at, cp_nl_int, cp_nl_ref, cp_nl_long, cp_nl_none, cp_pop_0, cp_pop_s, reduceIte, if_true, if_false, Bool.false_eq_true, Bool.true_eq_false, false_implies, implies_true, forall_const, true_implies, true_and, and_true, and_self, true_or, or_true, false_or, or_false, Value.category, List.length_cons, List.length_nil, Option.toList_some, Option.toList_none, List.cons_append, List.nil_append, List.append_nil, Prod.mk.injEq, Nat.add_zero, Nat.zero_add, Nat.reduceAdd, Nat.reduceSub, Nat.reduceEqDiff, Nat.reduceLeDiff, Nat.reduceLT, Nat.le_refl, beq_self_eq_true, Nat.reduceBEq, ne_eq, not_true_eq_false, not_false_eq_true, Int32.reduceAdd, Int32.reduceSub, Int32.reduceMul, Int32.reduceLE, Int32.reduceLT, Int32.reduceToNatClampNeg, b01_0, b01_1, ne_2_0, ne_3_0, ne_4_0, ne_5_0, ne_6_0, ne_m1_0, ne_m2_0, b01_01, b01_n, lt_m2, lt_m1, le_m2, le_m1, Classical.not_not, Bool.or_false, Bool.false_or, Bool.true_or, Bool.or_true, j_CP_ask_0, b_CP_ask_0, j_CP_ask_24, b_CP_ask_24, j_CP_ask_25, b_CP_ask_25, an_0, an_1, ne_0_1, ne_0_m1, ne_1_0, ne_1_m1, ne_m1_0, ne_m1_1, pp_0_12, pp_0_7, pp_15_0, sh_0, sh_15, sh_42]
    refine mid_i ?_
    refine c_Mod_ask (iv_n6 b0) (iv_n b0) hU' ?_ ?_
    · intro e
      exact absurd (iv_p0 b0 hn) e
    · intro _
      exact fin_i rfl (iv_rn h0 n14)
theorem pr_askLeaves (h : Iv I t u) : PR g d m_CP_askLeaves m_Mod_askLeaves [] I J t u r x := by
  obtain ⟨⟨n, s, m, h0⟩, -, -⟩ := h
  have hB := h0.1
  have ht := iv_tk hB
  have b0 := (iv_rf h0 1).1
  have b1 := (iv_rf h0 0).1
  obtain ⟨um, tm, hum, hU, hC, c7, c8⟩ := iv_Uw h0 0
  obtain ⟨um', tm', -, hU', -, -, -⟩ := iv_Uw h0 1
  have hf := fbw h0 0 c7 c8
  have ea : skA (rfu I 0) n um tm (tua (I 47)) (tub (I 47)) (tfs (I 47)) = cak (cfi (rfu I 0) t n um tm (tua (I 47)) (tub (I 47)) (tfs (I 47))) um := fb_ask hum hf
  unfold PR
  refine MW.of ok_CP_askLeaves (Nat.le_of_ble_eq_true rfl) ?_
  refine cp_run 40 (fun _ => false) ck_CP_askLeaves ?_
  simp only [cp_vc, cp_vs, cp_jm, cp_ent_en, cp_en_int, cp_en_ref, cp_en_ret, cp_en_long, cp_en_nil, cp_s1_at, cp_s2_at, cp_nl_int, cp_nl_ref, cp_nl_long, cp_nl_none, cp_pop_0, cp_pop_s, reduceIte, if_true, if_false, Bool.false_eq_true, Bool.true_eq_false, false_implies, implies_true, forall_const, true_implies, true_and, and_true, and_self, true_or, or_true, false_or, or_false, Value.category, List.length_cons, List.length_nil, Option.toList_some, Option.toList_none, List.cons_append, List.nil_append, List.append_nil, Prod.mk.injEq, Nat.add_zero, Nat.zero_add, Nat.reduceAdd, Nat.reduceSub, Nat.reduceEqDiff, Nat.reduceLeDiff, Nat.reduceLT, Nat.le_refl, beq_self_eq_true, Nat.reduceBEq, ne_eq, not_true_eq_false, not_false_eq_true, Int32.reduceAdd, Int32.reduceSub, Int32.reduceMul, Int32.reduceLE, Int32.reduceLT, Int32.reduceToNatClampNeg, b01_0, b01_1, ne_2_0, ne_3_0, ne_4_0, ne_5_0, ne_6_0, ne_m1_0, ne_m2_0, b01_01, b01_n, lt_m2, lt_m1, le_m2, le_m1, Classical.not_not, j_CP_askLeaves_0, b_CP_askLeaves_0, j_CP_askLeaves_24, b_CP_askLeaves_24, j_CP_askLeaves_25, b_CP_askLeaves_25, an_0, an_1, ne_0_1, ne_0_m1, ne_1_0, ne_1_m1, ne_m1_0, ne_m1_1, pp_0_12, pp_0_7, pp_15_0, sh_0, sh_15, sh_42]
  refine c_CP_isTold (n := n) (iv_tk hB) (iv_n6 hB) (iv_cn hB) ?_ ?_
  · intro hn
    simp only [cp_kk, cp_vc, cp_vs, cp_jm, cp_ent_en, cp_en_int, cp_en_ref, cp_en_ret, cp_en_long, cp_en_nil, cp_s1_at, cp_s2_at, cp_nl_int, cp_nl_ref, cp_nl_long, cp_nl_none, cp_pop_0, cp_pop_s, reduceIte, if_true, if_false, Bool.false_eq_true, Bool.true_eq_false, false_implies, implies_true, forall_const, true_implies, true_and, and_true, and_self, true_or, or_true, false_or, or_false, Value.category, List.length_cons, List.length_nil, Option.toList_some, Option.toList_none, List.cons_append, List.nil_append, List.append_nil, Prod.mk.injEq, Nat.add_zero, Nat.zero_add, Nat.reduceAdd, Nat.reduceSub, Nat.reduceEqDiff, Nat.reduceLeDiff, Nat.reduceLT, Nat.le_refl, beq_self_eq_true, Nat.reduceBEq, ne_eq, not_true_eq_false, not_false_eq_true, Int32.reduceAdd, Int32.reduceSub, Int32.reduceMul, Int32.reduceLE, Int32.reduceLT, Int32.reduceToNatClampNeg, b01_0, b01_1, ne_2_0, ne_3_0, ne_4_0, ne_5_0, ne_6_0, ne_m1_0, ne_m2_0, b01_01, b01_n, lt_m2, lt_m1, le_m2, le_m1, Classical.not_not, Bool.or_false, Bool.false_or, Bool.true_or, Bool.or_true, j_CP_askLeaves_0, b_CP_askLeaves_0, j_CP_askLeaves_24, b_CP_askLeaves_24, j_CP_askLeaves_25, b_CP_askLeaves_25, an_0, an_1, ne_0_1, ne_0_m1, ne_1_0, ne_1_m1, ne_m1_0, ne_m1_1, pp_0_12, pp_0_7, pp_15_0, sh_0, sh_15, sh_42, pp_15_0, sT0 ht, sT1 ht, sT2 ht, sT3 ht, sT4 ht, sT5 ht, sT6 ht, sT7 ht, sT8 ht, sT9 ht, pT1 ht, pT2 ht, pT3 ht, pT4 ht, pT5 ht, pT6 ht, pT7 ht, pT8 ht, pT9 ht]
    refine c_Mem_askLeft (iv_tk b1) (iv_n6 b1) (iv_cn b1) hC (fun p _ => fb_le hum hf) ?_ ?_
    · intro p hp
      simp only [cp_kk, cp_vc, cp_vs, cp_jm, cp_ent_en, cp_en_int, cp_en_ref, cp_en_ret, cp_en_long, cp_en_nil, cp_s1_at, cp_s2_at, cp_nl_int, cp_nl_ref, cp_nl_long, cp_nl_none, cp_pop_0, cp_pop_s, reduceIte, if_true, if_false, Bool.false_eq_true, Bool.true_eq_false, false_implies, implies_true, forall_const, true_implies, true_and, and_true, and_self, true_or, or_true, false_or, or_false, Value.category, List.length_cons, List.length_nil, Option.toList_some, Option.toList_none, List.cons_append, List.nil_append, List.append_nil, Prod.mk.injEq, Nat.add_zero, Nat.zero_add, Nat.reduceAdd, Nat.reduceSub, Nat.reduceEqDiff, Nat.reduceLeDiff, Nat.reduceLT, Nat.le_refl, beq_self_eq_true, Nat.reduceBEq, ne_eq, not_true_eq_false, not_false_eq_true, Int32.reduceAdd, Int32.reduceSub, Int32.reduceMul, Int32.reduceLE, Int32.reduceLT, Int32.reduceToNatClampNeg, b01_0, b01_1, ne_2_0, ne_3_0, ne_4_0, ne_5_0, ne_6_0, ne_m1_0, ne_m2_0, b01_01, b01_n, lt_m2, lt_m1, le_m2, le_m1, Classical.not_not, Bool.or_false, Bool.false_or, Bool.true_or, Bool.or_true, j_CP_askLeaves_0, b_CP_askLeaves_0, j_CP_askLeaves_24, b_CP_askLeaves_24, j_CP_askLeaves_25, b_CP_askLeaves_25, an_0, an_1, ne_0_1, ne_0_m1, ne_1_0, ne_1_m1, ne_m1_0, ne_m1_1, pp_0_12, pp_0_7, pp_15_0, sh_0, sh_15, sh_42]
      refine mid_i ?_
      refine c_Mod_askLeaves (iv_n6 b1) (iv_n b1) hU ?_ ?_ ?_
      · intro _ M k hM hk
        rw [ea, hp] at hk
        cases hk
        exact fin_i (congrArg nI (fb_lv hum hf)) (skF_g (v := 0) h0 hM)
      · intro _ M hM hk
        rw [ea, hp] at hk
        cases hk
      · intro e
        exact absurd e (iv_p1 b1 hn)
    · intro hp
      simp only [cp_kk, cp_vc, cp_vs, cp_jm, cp_ent_en, cp_en_int, cp_en_ref, cp_en_ret, cp_en_long, cp_en_nil, cp_s1_at, cp_s2_at, cp_nl_int, cp_nl_ref, cp_nl_long, cp_nl_none, cp_pop_0, cp_pop_s, reduceIte, if_true, if_false, Bool.false_eq_true, Bool.true_eq_false, false_implies, implies_true, forall_const, true_implies, true_and, and_true, and_self, true_or, or_true, false_or, or_false, Value.category, List.length_cons, List.length_nil, Option.toList_some, Option.toList_none, List.cons_append, List.nil_append, List.append_nil, Prod.mk.injEq, Nat.add_zero, Nat.zero_add, Nat.reduceAdd, Nat.reduceSub, Nat.reduceEqDiff, Nat.reduceLeDiff, Nat.reduceLT, Nat.le_refl, beq_self_eq_true, Nat.reduceBEq, ne_eq, not_true_eq_false, not_false_eq_true, Int32.reduceAdd, Int32.reduceSub, Int32.reduceMul, Int32.reduceLE, Int32.reduceLT, Int32.reduceToNatClampNeg, b01_0, b01_1, ne_2_0, ne_3_0, ne_4_0, ne_5_0, ne_6_0, ne_m1_0, ne_m2_0, b01_01, b01_n, lt_m2, lt_m1, le_m2, le_m1, Classical.not_not, Bool.or_false, Bool.false_or, Bool.true_or, Bool.or_true, j_CP_askLeaves_0, b_CP_askLeaves_0, j_CP_askLeaves_24, b_CP_askLeaves_24, j_CP_askLeaves_25, b_CP_askLeaves_25, an_0, an_1, ne_0_1, ne_0_m1, ne_1_0, ne_1_m1, ne_m1_0, ne_m1_1, pp_0_12, pp_0_7, pp_15_0, sh_0, sh_15, sh_42]
      refine mid_i ?_
      refine c_Mod_askLeaves (iv_n6 b1) (iv_n b1) hU ?_ ?_ ?_
      · intro _ M k hM hk
        rw [ea, hp] at hk
        cases hk
      · intro _ M hM hk
        exact fin_i rfl (skF_g (v := 0) h0 hM)
      · intro e
        exact absurd e (iv_p1 b1 hn)
  · intro hn
    simp only [cp_kk, cp_vc, cp_vs, cp_jm, cp_ent_en, cp_en_int, cp_en_ref, cp_en_ret, cp_en_long, cp_en_nil, cp_s1_at, cp_s2_at, cp_nl_int, cp_nl_ref, cp_nl_long, cp_nl_none, cp_pop_0, cp_pop_s, reduceIte, if_true, if_false, Bool.false_eq_true, Bool.true_eq_false, false_implies, implies_true, forall_const, true_implies, true_and, and_true, and_self, true_or, or_true, false_or, or_false, Value.category, List.length_cons, List.length_nil, Option.toList_some, Option.toList_none, List.cons_append, List.nil_append, List.append_nil, Prod.mk.injEq, Nat.add_zero, Nat.zero_add, Nat.reduceAdd, Nat.reduceSub, Nat.reduceEqDiff, Nat.reduceLeDiff, Nat.reduceLT, Nat.le_refl, beq_self_eq_true, Nat.reduceBEq, ne_eq, not_true_eq_false, not_false_eq_true, Int32.reduceAdd, Int32.reduceSub, Int32.reduceMul, Int32.reduceLE, Int32.reduceLT, Int32.reduceToNatClampNeg, b01_0, b01_1, ne_2_0, ne_3_0, ne_4_0, ne_5_0, ne_6_0, ne_m1_0, ne_m2_0, b01_01, b01_n, lt_m2, lt_m1, le_m2, le_m1, Classical.not_not, Bool.or_false, Bool.false_or, Bool.true_or, Bool.or_true, j_CP_askLeaves_0, b_CP_askLeaves_0, j_CP_askLeaves_24, b_CP_askLeaves_24, j_CP_askLeaves_25, b_CP_askLeaves_25, an_0, an_1, ne_0_1, ne_0_m1, ne_1_0, ne_1_m1, ne_m1_0, ne_m1_1, pp_0_12, pp_0_7, pp_15_0, sh_0, sh_15, sh_42]
    refine mid_i ?_
    refine c_Mod_askLeaves (iv_n6 b0) (iv_n b0) hU' ?_ ?_ ?_
    · intro e
      exact absurd (iv_p0 b0 hn) e
    · intro e
      exact absurd (iv_p0 b0 hn) e
    · intro _
      exact fin_i rfl (iv_rn h0 n14)
theorem trm_kp {um kn : Nat} {ua ub : Nat → Nat} : kp I (trm I um ua ub kn) := by
  refine ⟨fun a ha => funext fun j => ?_, fun j hj => ?_, fun j hj => ?_⟩
  · have := wc_ne ha
    exact trm_o I um ua ub kn (by omega) j
  · exact trm_o I um ua ub kn (by omega) j
  · exact trm_o I um ua ub kn (by omega) j
theorem pr_judge (h : Iv I t u) : PR g d m_CP_judge m_Mod_judge [] I J t u r x := by
  obtain ⟨⟨n, s, m, h0⟩, -, -⟩ := h
  have hB := h0.1
  have ht := iv_tk hB
  have b0 := (iv_rf h0 1).1
  have b1 := (iv_rf h0 0).1
  obtain ⟨um, tm, hum, hU, hC, c7, c8⟩ := iv_Uw h0 0
  obtain ⟨um', tm', -, hU', -, -, -⟩ := iv_Uw h0 1
  have hf := fbw h0 0 c7 c8
  unfold PR
  refine MW.of ok_CP_judge (Nat.le_of_ble_eq_true rfl) ?_
  refine cp_run 40 (fun _ => false) ck_CP_judge ?_
  simp only [cp_vc, cp_vs, cp_jm, cp_ent_en, cp_en_int, cp_en_ref, cp_en_ret, cp_en_long, cp_en_nil, cp_s1_at, cp_s2_at, cp_nl_int, cp_nl_ref, cp_nl_long, cp_nl_none, cp_pop_0, cp_pop_s, reduceIte, if_true, if_false, Bool.false_eq_true, Bool.true_eq_false, false_implies, implies_true, forall_const, true_implies, true_and, and_true, and_self, true_or, or_true, false_or, or_false, Value.category, List.length_cons, List.length_nil, Option.toList_some, Option.toList_none, List.cons_append, List.nil_append, List.append_nil, Prod.mk.injEq, Nat.add_zero, Nat.zero_add, Nat.reduceAdd, Nat.reduceSub, Nat.reduceEqDiff, Nat.reduceLeDiff, Nat.reduceLT, Nat.le_refl, beq_self_eq_true, Nat.reduceBEq, ne_eq, not_true_eq_false, not_false_eq_true, Int32.reduceAdd, Int32.reduceSub, Int32.reduceMul, Int32.reduceLE, Int32.reduceLT, Int32.reduceToNatClampNeg, b01_0, b01_1, ne_2_0, ne_3_0, ne_4_0, ne_5_0, ne_6_0, ne_m1_0, ne_m2_0, b01_01, b01_n, lt_m2, lt_m1, le_m2, le_m1, Classical.not_not, j_CP_judge_0, b_CP_judge_0, j_CP_judge_24, b_CP_judge_24, j_CP_judge_25, b_CP_judge_25, an_0, an_1, ne_0_1, ne_0_m1, ne_1_0, ne_1_m1, ne_m1_0, ne_m1_1, pp_0_12, pp_0_7, pp_15_0, sh_0, sh_15, sh_42]
  refine c_CP_isTold (n := n) (iv_tk hB) (iv_n6 hB) (iv_cn hB) ?_ ?_
  · intro hn
    simp only [cp_kk, cp_vc, cp_vs, cp_jm, cp_ent_en, cp_en_int, cp_en_ref, cp_en_ret, cp_en_long, cp_en_nil, cp_s1_at, cp_s2_at, cp_nl_int, cp_nl_ref, cp_nl_long, cp_nl_none, cp_pop_0, cp_pop_s, reduceIte, if_true, if_false, Bool.false_eq_true, Bool.true_eq_false, false_implies, implies_true, forall_const, true_implies, true_and, and_true, and_self, true_or, or_true, false_or, or_false, Value.category, List.length_cons, List.length_nil, Option.toList_some, Option.toList_none, List.cons_append, List.nil_append, List.append_nil, Prod.mk.injEq, Nat.add_zero, Nat.zero_add, Nat.reduceAdd, Nat.reduceSub, Nat.reduceEqDiff, Nat.reduceLeDiff, Nat.reduceLT, Nat.le_refl, beq_self_eq_true, Nat.reduceBEq, ne_eq, not_true_eq_false, not_false_eq_true, Int32.reduceAdd, Int32.reduceSub, Int32.reduceMul, Int32.reduceLE, Int32.reduceLT, Int32.reduceToNatClampNeg, b01_0, b01_1, ne_2_0, ne_3_0, ne_4_0, ne_5_0, ne_6_0, ne_m1_0, ne_m2_0, b01_01, b01_n, lt_m2, lt_m1, le_m2, le_m1, Classical.not_not, Bool.or_false, Bool.false_or, Bool.true_or, Bool.or_true, j_CP_judge_0, b_CP_judge_0, j_CP_judge_24, b_CP_judge_24, j_CP_judge_25, b_CP_judge_25, an_0, an_1, ne_0_1, ne_0_m1, ne_1_0, ne_1_m1, ne_m1_0, ne_m1_1, pp_0_12, pp_0_7, pp_15_0, sh_0, sh_15, sh_42, pp_15_0, sT0 ht, sT1 ht, sT2 ht, sT3 ht, sT4 ht, sT5 ht, sT6 ht, sT7 ht, sT8 ht, sT9 ht, pT1 ht, pT2 ht, pT3 ht, pT4 ht, pT5 ht, pT6 ht, pT7 ht, pT8 ht, pT9 ht]
    refine c_Mem_firstUntrue (iv_tk b1) (iv_n6 b1) (iv_cn b1) hC ?_
    simp only [cp_kk, cp_vc, cp_vs, cp_jm, cp_ent_en, cp_en_int, cp_en_ref, cp_en_ret, cp_en_long, cp_en_nil, cp_s1_at, cp_s2_at, cp_nl_int, cp_nl_ref, cp_nl_long, cp_nl_none, cp_pop_0, cp_pop_s, reduceIte, if_true, if_false, Bool.false_eq_true, Bool.true_eq_false, false_implies, implies_true, forall_const, true_implies, true_and, and_true, and_self, true_or, or_true, false_or, or_false, Value.category, List.length_cons, List.length_nil, Option.toList_some, Option.toList_none, List.cons_append, List.nil_append, List.append_nil, Prod.mk.injEq, Nat.add_zero, Nat.zero_add, Nat.reduceAdd, Nat.reduceSub, Nat.reduceEqDiff, Nat.reduceLeDiff, Nat.reduceLT, Nat.le_refl, beq_self_eq_true, Nat.reduceBEq, ne_eq, not_true_eq_false, not_false_eq_true, Int32.reduceAdd, Int32.reduceSub, Int32.reduceMul, Int32.reduceLE, Int32.reduceLT, Int32.reduceToNatClampNeg, b01_0, b01_1, ne_2_0, ne_3_0, ne_4_0, ne_5_0, ne_6_0, ne_m1_0, ne_m2_0, b01_01, b01_n, lt_m2, lt_m1, le_m2, le_m1, Classical.not_not, Bool.or_false, Bool.false_or, Bool.true_or, Bool.or_true, j_CP_judge_0, b_CP_judge_0, j_CP_judge_24, b_CP_judge_24, j_CP_judge_25, b_CP_judge_25, an_0, an_1, ne_0_1, ne_0_m1, ne_1_0, ne_1_m1, ne_m1_0, ne_m1_1, pp_0_12, pp_0_7, pp_15_0, sh_0, sh_15, sh_42]
    refine mid_i ?_
    refine c_Mod_judge (iv_n6 b1) (iv_n b1) hU ?_ ?_
    · intro _
      refine fin_i (congrArg oI ?_) (iv_gk h0 (kp_rfu kp_r 0) rfu_2 trm_kp (trm_o _ _ _ _ _ (by omega) _) (trm_o _ _ _ _ _ (by omega) _))
      rw [wf_w h0 0 c7 c8, wf_c (I := rfu I 0) (iv_n6 b1) (fun j => gd47 _ j), (iv_hd b1).2.1]
    · intro e
      exact absurd e (iv_p1 b1 hn)
  · intro hn
    simp only [cp_kk, cp_vc, cp_vs, cp_jm, cp_ent_en, cp_en_int, cp_en_ref, cp_en_ret, cp_en_long, cp_en_nil, cp_s1_at, cp_s2_at, cp_nl_int, cp_nl_ref, cp_nl_long, cp_nl_none, cp_pop_0, cp_pop_s, reduceIte, if_true, if_false, Bool.false_eq_true, Bool.true_eq_false, false_implies, implies_true, forall_const, true_implies, true_and, and_true, and_self, true_or, or_true, false_or, or_false, Value.category, List.length_cons, List.length_nil, Option.toList_some, Option.toList_none, List.cons_append, List.nil_append, List.append_nil, Prod.mk.injEq, Nat.add_zero, Nat.zero_add, Nat.reduceAdd, Nat.reduceSub, Nat.reduceEqDiff, Nat.reduceLeDiff, Nat.reduceLT, Nat.le_refl, beq_self_eq_true, Nat.reduceBEq, ne_eq, not_true_eq_false, not_false_eq_true, Int32.reduceAdd, Int32.reduceSub, Int32.reduceMul, Int32.reduceLE, Int32.reduceLT, Int32.reduceToNatClampNeg, b01_0, b01_1, ne_2_0, ne_3_0, ne_4_0, ne_5_0, ne_6_0, ne_m1_0, ne_m2_0, b01_01, b01_n, lt_m2, lt_m1, le_m2, le_m1, Classical.not_not, Bool.or_false, Bool.false_or, Bool.true_or, Bool.or_true, j_CP_judge_0, b_CP_judge_0, j_CP_judge_24, b_CP_judge_24, j_CP_judge_25, b_CP_judge_25, an_0, an_1, ne_0_1, ne_0_m1, ne_1_0, ne_1_m1, ne_m1_0, ne_m1_1, pp_0_12, pp_0_7, pp_15_0, sh_0, sh_15, sh_42]
    refine mid_i ?_
    refine c_Mod_judge (iv_n6 b0) (iv_n b0) hU' ?_ ?_
    · intro e
      exact absurd (iv_p0 b0 hn) e
    · intro _
      exact fin_i rfl (iv_rn h0 n14)
theorem pr_chills (h : Iv I t u) : PR g d m_CP_chills m_Mod_chills [] I J t u r x := by
  obtain ⟨⟨n, s, m, h0⟩, -, -⟩ := h
  have hB := h0.1
  have ht := iv_tk hB
  have b0 := (iv_rf h0 1).1
  have b1 := (iv_rf h0 0).1
  obtain ⟨um, tm, hum, hU, hC, c7, c8⟩ := iv_Uw h0 0
  obtain ⟨um', tm', -, hU', -, -, -⟩ := iv_Uw h0 1
  have hf := fbw h0 0 c7 c8
  unfold PR
  refine MW.of ok_CP_chills (Nat.le_of_ble_eq_true rfl) ?_
  refine cp_run 40 (fun _ => false) ck_CP_chills ?_
  simp only [cp_vc, cp_vs, cp_jm, cp_ent_en, cp_en_int, cp_en_ref, cp_en_ret, cp_en_long, cp_en_nil, cp_s1_at, cp_s2_at, cp_nl_int, cp_nl_ref, cp_nl_long, cp_nl_none, cp_pop_0, cp_pop_s, reduceIte, if_true, if_false, Bool.false_eq_true, Bool.true_eq_false, false_implies, implies_true, forall_const, true_implies, true_and, and_true, and_self, true_or, or_true, false_or, or_false, Value.category, List.length_cons, List.length_nil, Option.toList_some, Option.toList_none, List.cons_append, List.nil_append, List.append_nil, Prod.mk.injEq, Nat.add_zero, Nat.zero_add, Nat.reduceAdd, Nat.reduceSub, Nat.reduceEqDiff, Nat.reduceLeDiff, Nat.reduceLT, Nat.le_refl, beq_self_eq_true, Nat.reduceBEq, ne_eq, not_true_eq_false, not_false_eq_true, Int32.reduceAdd, Int32.reduceSub, Int32.reduceMul, Int32.reduceLE, Int32.reduceLT, Int32.reduceToNatClampNeg, b01_0, b01_1, ne_2_0, ne_3_0, ne_4_0, ne_5_0, ne_6_0, ne_m1_0, ne_m2_0, b01_01, b01_n, lt_m2, lt_m1, le_m2, le_m1, Classical.not_not, j_CP_chills_0, b_CP_chills_0, j_CP_chills_24, b_CP_chills_24, j_CP_chills_25, b_CP_chills_25, an_0, an_1, ne_0_1, ne_0_m1, ne_1_0, ne_1_m1, ne_m1_0, ne_m1_1, pp_0_12, pp_0_7, pp_15_0, sh_0, sh_15, sh_42]
  refine c_CP_isTold (n := n) (iv_tk hB) (iv_n6 hB) (iv_cn hB) ?_ ?_
  · intro hn
    simp only [cp_kk, cp_vc, cp_vs, cp_jm, cp_ent_en, cp_en_int, cp_en_ref, cp_en_ret, cp_en_long, cp_en_nil, cp_s1_at, cp_s2_at, cp_nl_int, cp_nl_ref, cp_nl_long, cp_nl_none, cp_pop_0, cp_pop_s, reduceIte, if_true, if_false, Bool.false_eq_true, Bool.true_eq_false, false_implies, implies_true, forall_const, true_implies, true_and, and_true, and_self, true_or, or_true, false_or, or_false, Value.category, List.length_cons, List.length_nil, Option.toList_some, Option.toList_none, List.cons_append, List.nil_append, List.append_nil, Prod.mk.injEq, Nat.add_zero, Nat.zero_add, Nat.reduceAdd, Nat.reduceSub, Nat.reduceEqDiff, Nat.reduceLeDiff, Nat.reduceLT, Nat.le_refl, beq_self_eq_true, Nat.reduceBEq, ne_eq, not_true_eq_false, not_false_eq_true, Int32.reduceAdd, Int32.reduceSub, Int32.reduceMul, Int32.reduceLE, Int32.reduceLT, Int32.reduceToNatClampNeg, b01_0, b01_1, ne_2_0, ne_3_0, ne_4_0, ne_5_0, ne_6_0, ne_m1_0, ne_m2_0, b01_01, b01_n, lt_m2, lt_m1, le_m2, le_m1, Classical.not_not, Bool.or_false, Bool.false_or, Bool.true_or, Bool.or_true, j_CP_chills_0, b_CP_chills_0, j_CP_chills_24, b_CP_chills_24, j_CP_chills_25, b_CP_chills_25, an_0, an_1, ne_0_1, ne_0_m1, ne_1_0, ne_1_m1, ne_m1_0, ne_m1_1, pp_0_12, pp_0_7, pp_15_0, sh_0, sh_15, sh_42, pp_15_0, sT0 ht, sT1 ht, sT2 ht, sT3 ht, sT4 ht, sT5 ht, sT6 ht, sT7 ht, sT8 ht, sT9 ht, pT1 ht, pT2 ht, pT3 ht, pT4 ht, pT5 ht, pT6 ht, pT7 ht, pT8 ht, pT9 ht]
    refine c_Mem_chills (iv_tk b1) (iv_n6 b1) (iv_cn b1) hC ?_
    simp only [cp_kk, cp_vc, cp_vs, cp_jm, cp_ent_en, cp_en_int, cp_en_ref, cp_en_ret, cp_en_long, cp_en_nil, cp_s1_at, cp_s2_at, cp_nl_int, cp_nl_ref, cp_nl_long, cp_nl_none, cp_pop_0, cp_pop_s, reduceIte, if_true, if_false, Bool.false_eq_true, Bool.true_eq_false, false_implies, implies_true, forall_const, true_implies, true_and, and_true, and_self, true_or, or_true, false_or, or_false, Value.category, List.length_cons, List.length_nil, Option.toList_some, Option.toList_none, List.cons_append, List.nil_append, List.append_nil, Prod.mk.injEq, Nat.add_zero, Nat.zero_add, Nat.reduceAdd, Nat.reduceSub, Nat.reduceEqDiff, Nat.reduceLeDiff, Nat.reduceLT, Nat.le_refl, beq_self_eq_true, Nat.reduceBEq, ne_eq, not_true_eq_false, not_false_eq_true, Int32.reduceAdd, Int32.reduceSub, Int32.reduceMul, Int32.reduceLE, Int32.reduceLT, Int32.reduceToNatClampNeg, b01_0, b01_1, ne_2_0, ne_3_0, ne_4_0, ne_5_0, ne_6_0, ne_m1_0, ne_m2_0, b01_01, b01_n, lt_m2, lt_m1, le_m2, le_m1, Classical.not_not, Bool.or_false, Bool.false_or, Bool.true_or, Bool.or_true, j_CP_chills_0, b_CP_chills_0, j_CP_chills_24, b_CP_chills_24, j_CP_chills_25, b_CP_chills_25, an_0, an_1, ne_0_1, ne_0_m1, ne_1_0, ne_1_m1, ne_m1_0, ne_m1_1, pp_0_12, pp_0_7, pp_15_0, sh_0, sh_15, sh_42]
    refine mid_i ?_
    refine c_Mod_chills (iv_n6 b1) (iv_n b1) hU ?_ ?_
    · intro _ M hM
      refine fin_i (congrArg nI ?_) (iv_gk h0 (kp_rfu kp_r 0) rfu_2 ⟨fun a ha => funext fun j => hM a j (by have := wc_ne ha; omega), fun j _ => hM 44 j (by omega), fun j _ => hM 0 j (by omega)⟩ (hM 0 2 (by omega)) (hM 44 11 (by omega)))
      refine fo_congr 10 0 0 (fun c _ _ z => ?_)
      unfold rch
      rw [wf_w h0 0 c7 c8]
    · intro e
      exact absurd e (iv_p1 b1 hn)
  · intro hn
    simp only [cp_kk, cp_vc, cp_vs, cp_jm, cp_ent_en, cp_en_int, cp_en_ref, cp_en_ret, cp_en_long, cp_en_nil, cp_s1_at, cp_s2_at, cp_nl_int, cp_nl_ref, cp_nl_long, cp_nl_none, cp_pop_0, cp_pop_s, reduceIte, if_true, if_false, Bool.false_eq_true, Bool.true_eq_false, false_implies, implies_true, forall_const, true_implies, true_and, and_true, and_self, true_or, or_true, false_or, or_false, Value.category, List.length_cons, List.length_nil, Option.toList_some, Option.toList_none, List.cons_append, List.nil_append, List.append_nil, Prod.mk.injEq, Nat.add_zero, Nat.zero_add, Nat.reduceAdd, Nat.reduceSub, Nat.reduceEqDiff, Nat.reduceLeDiff, Nat.reduceLT, Nat.le_refl, beq_self_eq_true, Nat.reduceBEq, ne_eq, not_true_eq_false, not_false_eq_true, Int32.reduceAdd, Int32.reduceSub, Int32.reduceMul, Int32.reduceLE, Int32.reduceLT, Int32.reduceToNatClampNeg, b01_0, b01_1, ne_2_0, ne_3_0, ne_4_0, ne_5_0, ne_6_0, ne_m1_0, ne_m2_0, b01_01, b01_n, lt_m2, lt_m1, le_m2, le_m1, Classical.not_not, Bool.or_false, Bool.false_or, Bool.true_or, Bool.or_true, j_CP_chills_0, b_CP_chills_0, j_CP_chills_24, b_CP_chills_24, j_CP_chills_25, b_CP_chills_25, an_0, an_1, ne_0_1, ne_0_m1, ne_1_0, ne_1_m1, ne_m1_0, ne_m1_1, pp_0_12, pp_0_7, pp_15_0, sh_0, sh_15, sh_42]
    refine mid_i ?_
    refine c_Mod_chills (iv_n6 b0) (iv_n b0) hU' ?_ ?_
    · intro e
      exact absurd (iv_p0 b0 hn) e
    · intro _
      exact fin_i rfl (iv_rn h0 n14)
theorem pr_fitAt {i : Int32} (h : Iv I t u) : PR g d m_CP_fitAt m_Mod_fitAt [.int i] I J t u r x := by
  obtain ⟨⟨n, s, m, h0⟩, -, -⟩ := h
  have hB := h0.1
  have ht := iv_tk hB
  have b0 := (iv_rf h0 1).1
  have b1 := (iv_rf h0 0).1
  obtain ⟨um, tm, hum, hU, hC, c7, c8⟩ := iv_Uw h0 0
  obtain ⟨um', tm', -, hU', -, c7', c8'⟩ := iv_Uw h0 1
  have eu : um' = um := by omega
  have et : tm' = tm := by omega
  subst eu
  subst et
  have h16 := pw16 hum
  have hf := fbw h0 0 c7 c8
  have en : sp_nth (fun k => (cfi (rfu I 0) t n um' tm' (tua (I 47)) (tub (I 47)) (tfs (I 47))).testBit k) i (2 ^ um') 0 0 = sp_nth (rft (rfu I 0) n um' tm' (tua (I 47)) (tub (I 47)) (tfs (I 47))) i (2 ^ um') 0 0 := nth_cong _ 0 0 (fun k _ hk => by rw [hf, decide_eq_true (by omega), Bool.true_and])
  have e10 : rft (rfu I 1) n um' tm' (tua (I 47)) (tub (I 47)) (tfs (I 47)) = rft (rfu I 0) n um' tm' (tua (I 47)) (tub (I 47)) (tfs (I 47)) := rft_c (iv_n6 b1) (fun j => by rw [rfu47, rfu47]) um' tm' _ _ _
  have sk1v : ∀ v, (sk (rfu I v) n um' tm' (tua (I 47)) (tub (I 47)) (tfs (I 47)) i).2.1 = match sp_nth (rft (rfu I v) n um' tm' (tua (I 47)) (tub (I 47)) (tfs (I 47))) i (2 ^ um') 0 0 with
      | some s => nI s
      | none => -1 := fun v => sk_2 (2 ^ um') 0 (0, -1, 0, 2 ^ um' - 1, fun _ => 0) (by show 0 + 2 ^ um' < 1000; omega)
  unfold PR
  refine MW.of ok_CP_fitAt (Nat.le_of_ble_eq_true rfl) ?_
  refine cp_run 40 (fun _ => false) ck_CP_fitAt ?_
  simp only [cp_vc, cp_vs, cp_jm, cp_ent_en, cp_en_int, cp_en_ref, cp_en_ret, cp_en_long, cp_en_nil, cp_s1_at, cp_s2_at, cp_nl_int, cp_nl_ref, cp_nl_long, cp_nl_none, cp_pop_0, cp_pop_s, reduceIte, if_true, if_false, Bool.false_eq_true, Bool.true_eq_false, false_implies, implies_true, forall_const, true_implies, true_and, and_true, and_self, true_or, or_true, false_or, or_false, Value.category, List.length_cons, List.length_nil, Option.toList_some, Option.toList_none, List.cons_append, List.nil_append, List.append_nil, Prod.mk.injEq, Nat.add_zero, Nat.zero_add, Nat.reduceAdd, Nat.reduceSub, Nat.reduceEqDiff, Nat.reduceLeDiff, Nat.reduceLT, Nat.le_refl, beq_self_eq_true, Nat.reduceBEq, ne_eq, not_true_eq_false, not_false_eq_true, Int32.reduceAdd, Int32.reduceSub, Int32.reduceMul, Int32.reduceLE, Int32.reduceLT, Int32.reduceToNatClampNeg, b01_0, b01_1, ne_2_0, ne_3_0, ne_4_0, ne_5_0, ne_6_0, ne_m1_0, ne_m2_0, b01_01, b01_n, lt_m2, lt_m1, le_m2, le_m1, Classical.not_not, j_CP_fitAt_0, b_CP_fitAt_0, j_CP_fitAt_9, b_CP_fitAt_9, j_CP_fitAt_39, b_CP_fitAt_39, j_CP_fitAt_40, b_CP_fitAt_40, an_0, an_1, cl_1, ne_0_1, ne_0_m1, ne_0_m2, ne_1_0, ne_1_m1, ne_1_m2, ne_m1_0, ne_m1_1, ne_m1_m2, ne_m2_0, ne_m2_1, ne_m2_m1, pp_0_12, pp_0_7, pp_15_0, sh_0, sh_15, sh_42, vi_1]
  refine c_CP_isTold (n := n) (iv_tk hB) (iv_n6 hB) (iv_cn hB) ?_ ?_
  · intro hn
    simp only [cp_kk, cp_vc, cp_vs, cp_jm, cp_ent_en, cp_en_int, cp_en_ref, cp_en_ret, cp_en_long, cp_en_nil, cp_s1_at, cp_s2_at, cp_nl_int, cp_nl_ref, cp_nl_long, cp_nl_none, cp_pop_0, cp_pop_s, reduceIte, if_true, if_false, Bool.false_eq_true, Bool.true_eq_false, false_implies, implies_true, forall_const, true_implies, true_and, and_true, and_self, true_or, or_true, false_or, or_false, Value.category, List.length_cons, List.length_nil, Option.toList_some, Option.toList_none, List.cons_append, List.nil_append, List.append_nil, Prod.mk.injEq, Nat.add_zero, Nat.zero_add, Nat.reduceAdd, Nat.reduceSub, Nat.reduceEqDiff, Nat.reduceLeDiff, Nat.reduceLT, Nat.le_refl, beq_self_eq_true, Nat.reduceBEq, ne_eq, not_true_eq_false, not_false_eq_true, Int32.reduceAdd, Int32.reduceSub, Int32.reduceMul, Int32.reduceLE, Int32.reduceLT, Int32.reduceToNatClampNeg, b01_0, b01_1, ne_2_0, ne_3_0, ne_4_0, ne_5_0, ne_6_0, ne_m1_0, ne_m2_0, b01_01, b01_n, lt_m2, lt_m1, le_m2, le_m1, Classical.not_not, Bool.or_false, Bool.false_or, Bool.true_or, Bool.or_true, j_CP_fitAt_0, b_CP_fitAt_0, j_CP_fitAt_9, b_CP_fitAt_9, j_CP_fitAt_39, b_CP_fitAt_39, j_CP_fitAt_40, b_CP_fitAt_40, an_0, an_1, cl_1, ne_0_1, ne_0_m1, ne_0_m2, ne_1_0, ne_1_m1, ne_1_m2, ne_m1_0, ne_m1_1, ne_m1_m2, ne_m2_0, ne_m2_1, ne_m2_m1, pp_0_12, pp_0_7, pp_15_0, sh_0, sh_15, sh_42, vi_1, pp_15_0, sT0 ht, sT1 ht, sT2 ht, sT3 ht, sT4 ht, sT5 ht, sT6 ht, sT7 ht, sT8 ht, sT9 ht, pT1 ht, pT2 ht, pT3 ht, pT4 ht, pT5 ht, pT6 ht, pT7 ht, pT8 ht, pT9 ht]
    refine c_Mem_fittingAt (iv_tk b1) (iv_n6 b1) (iv_cn b1) hC ?_
    rw [en]
    cases hq : sp_nth (rft (rfu I 0) n um' tm' (tua (I 47)) (tub (I 47)) (tfs (I 47))) i (2 ^ um') 0 0 with
    | none =>
      simp only [cp_kk, cp_vc, cp_vs, cp_jm, cp_ent_en, cp_en_int, cp_en_ref, cp_en_ret, cp_en_long, cp_en_nil, cp_s1_at, cp_s2_at, cp_nl_int, cp_nl_ref, cp_nl_long, cp_nl_none, cp_pop_0, cp_pop_s, reduceIte, if_true, if_false, Bool.false_eq_true, Bool.true_eq_false, false_implies, implies_true, forall_const, true_implies, true_and, and_true, and_self, true_or, or_true, false_or, or_false, Value.category, List.length_cons, List.length_nil, Option.toList_some, Option.toList_none, List.cons_append, List.nil_append, List.append_nil, Prod.mk.injEq, Nat.add_zero, Nat.zero_add, Nat.reduceAdd, Nat.reduceSub, Nat.reduceEqDiff, Nat.reduceLeDiff, Nat.reduceLT, Nat.le_refl, beq_self_eq_true, Nat.reduceBEq, ne_eq, not_true_eq_false, not_false_eq_true, Int32.reduceAdd, Int32.reduceSub, Int32.reduceMul, Int32.reduceLE, Int32.reduceLT, Int32.reduceToNatClampNeg, b01_0, b01_1, ne_2_0, ne_3_0, ne_4_0, ne_5_0, ne_6_0, ne_m1_0, ne_m2_0, b01_01, b01_n, lt_m2, lt_m1, le_m2, le_m1, Classical.not_not, Bool.or_false, Bool.false_or, Bool.true_or, Bool.or_true, j_CP_fitAt_0, b_CP_fitAt_0, j_CP_fitAt_9, b_CP_fitAt_9, j_CP_fitAt_39, b_CP_fitAt_39, j_CP_fitAt_40, b_CP_fitAt_40, an_0, an_1, cl_1, ne_0_1, ne_0_m1, ne_0_m2, ne_1_0, ne_1_m1, ne_1_m2, ne_m1_0, ne_m1_1, ne_m1_m2, ne_m2_0, ne_m2_1, ne_m2_m1, pp_0_12, pp_0_7, pp_15_0, sh_0, sh_15, sh_42, vi_1, oI]
      refine c_CP_refuse ?_
      simp only [cp_kk, cp_vc, cp_vs, cp_jm, cp_ent_en, cp_en_int, cp_en_ref, cp_en_ret, cp_en_long, cp_en_nil, cp_s1_at, cp_s2_at, cp_nl_int, cp_nl_ref, cp_nl_long, cp_nl_none, cp_pop_0, cp_pop_s, reduceIte, if_true, if_false, Bool.false_eq_true, Bool.true_eq_false, false_implies, implies_true, forall_const, true_implies, true_and, and_true, and_self, true_or, or_true, false_or, or_false, Value.category, List.length_cons, List.length_nil, Option.toList_some, Option.toList_none, List.cons_append, List.nil_append, List.append_nil, Prod.mk.injEq, Nat.add_zero, Nat.zero_add, Nat.reduceAdd, Nat.reduceSub, Nat.reduceEqDiff, Nat.reduceLeDiff, Nat.reduceLT, Nat.le_refl, beq_self_eq_true, Nat.reduceBEq, ne_eq, not_true_eq_false, not_false_eq_true, Int32.reduceAdd, Int32.reduceSub, Int32.reduceMul, Int32.reduceLE, Int32.reduceLT, Int32.reduceToNatClampNeg, b01_0, b01_1, ne_2_0, ne_3_0, ne_4_0, ne_5_0, ne_6_0, ne_m1_0, ne_m2_0, b01_01, b01_n, lt_m2, lt_m1, le_m2, le_m1, Classical.not_not, Bool.or_false, Bool.false_or, Bool.true_or, Bool.or_true, j_CP_fitAt_0, b_CP_fitAt_0, j_CP_fitAt_9, b_CP_fitAt_9, j_CP_fitAt_39, b_CP_fitAt_39, j_CP_fitAt_40, b_CP_fitAt_40, an_0, an_1, cl_1, ne_0_1, ne_0_m1, ne_0_m2, ne_1_0, ne_1_m1, ne_1_m2, ne_m1_0, ne_m1_1, ne_m1_m2, ne_m2_0, ne_m2_1, ne_m2_m1, pp_0_12, pp_0_7, pp_15_0, sh_0, sh_15, sh_42, vi_1]
      rw [show rfu (rfu I 0) 1 = rfu I 1 from rfu_rfu]
      have hs1 := sk1v 1
      rw [e10, hq] at hs1
      refine mid_i ?_
      refine c_Mod_fitAt (iv_n6 b0) (iv_n b0) hU' ?_ ?_ ?_
      · intro _ _ e
        rw [hs1] at e
        exact absurd e (by decide +kernel)
      · intro _ _ _ M hM
        exact fin_i rfl (iv_end h0 (kp_11 (kp_t (kp_gd (kp_rfu kp_r 1)) (kp_skF hM)) 1) (w := 1) (by rw [cp_u_at, if_neg (by omega), hM.1 0 2 (by omega) (by omega) (by omega), gd_o (by omega)]; exact rfu_2) (by rw [cp_u_at, if_pos ⟨rfl, rfl⟩]) n14)
      · intro _
        exact fin_i rfl (iv_rn h0 n14)
    | some z =>
      have hz := nth_lt _ _ _ hq
      have hne : ¬ nI z = -2 := fun e => nI_pos (show z < 2 ^ 31 by omega) (by rw [e]; decide +kernel)
      have hi : 0 ≤ i := by
        refine Int32.not_lt.mp (fun c => ?_)
        have nn : ∀ (m k y : Nat), y + m < 1000 → sp_nth (rft (rfu I 0) n um' tm' (tua (I 47)) (tub (I 47)) (tfs (I 47))) i m k y = none := by
          intro m
          induction m with
          | zero => intro k y _; rfl
          | succ m ih =>
            intro k y hy
            show (if _ = true then (if nI y = i then some k else _) else _) = none
            split
            · rw [if_neg (fun e => nI_pos (show y < 2 ^ 31 by omega) (by rw [e]; exact c))]
              exact ih (k + 1) (y + 1) (by omega)
            · exact ih (k + 1) y (by omega)
        rw [nn _ 0 0 (by omega)] at hq
        cases hq
      simp only [cp_kk, cp_vc, cp_vs, cp_jm, cp_ent_en, cp_en_int, cp_en_ref, cp_en_ret, cp_en_long, cp_en_nil, cp_s1_at, cp_s2_at, cp_nl_int, cp_nl_ref, cp_nl_long, cp_nl_none, cp_pop_0, cp_pop_s, reduceIte, if_true, if_false, Bool.false_eq_true, Bool.true_eq_false, false_implies, implies_true, forall_const, true_implies, true_and, and_true, and_self, true_or, or_true, false_or, or_false, Value.category, List.length_cons, List.length_nil, Option.toList_some, Option.toList_none, List.cons_append, List.nil_append, List.append_nil, Prod.mk.injEq, Nat.add_zero, Nat.zero_add, Nat.reduceAdd, Nat.reduceSub, Nat.reduceEqDiff, Nat.reduceLeDiff, Nat.reduceLT, Nat.le_refl, beq_self_eq_true, Nat.reduceBEq, ne_eq, not_true_eq_false, not_false_eq_true, Int32.reduceAdd, Int32.reduceSub, Int32.reduceMul, Int32.reduceLE, Int32.reduceLT, Int32.reduceToNatClampNeg, b01_0, b01_1, ne_2_0, ne_3_0, ne_4_0, ne_5_0, ne_6_0, ne_m1_0, ne_m2_0, b01_01, b01_n, lt_m2, lt_m1, le_m2, le_m1, Classical.not_not, Bool.or_false, Bool.false_or, Bool.true_or, Bool.or_true, j_CP_fitAt_0, b_CP_fitAt_0, j_CP_fitAt_9, b_CP_fitAt_9, j_CP_fitAt_39, b_CP_fitAt_39, j_CP_fitAt_40, b_CP_fitAt_40, an_0, an_1, cl_1, ne_0_1, ne_0_m1, ne_0_m2, ne_1_0, ne_1_m1, ne_1_m2, ne_m1_0, ne_m1_1, ne_m1_m2, ne_m2_0, ne_m2_1, ne_m2_m1, pp_0_12, pp_0_7, pp_15_0, sh_0, sh_15, sh_42, vi_1, oI, hne]
      have hs1 := sk1v 0
      rw [hq] at hs1
      refine mid_i ?_
      refine c_Mod_fitAt (iv_n6 b1) (iv_n b1) hU ?_ ?_ ?_
      · intro _ _ _ M hM
        exact fin_i hs1 (skF_g (v := 0) h0 hM)
      · intro _ _ e
        rw [hs1] at e
        exact absurd (nI_pos' (by omega)) e
      · rintro (e | e)
        · exact absurd e (iv_p1 b1 hn)
        · exact absurd hi e
  · intro hn
    simp only [cp_kk, cp_vc, cp_vs, cp_jm, cp_ent_en, cp_en_int, cp_en_ref, cp_en_ret, cp_en_long, cp_en_nil, cp_s1_at, cp_s2_at, cp_nl_int, cp_nl_ref, cp_nl_long, cp_nl_none, cp_pop_0, cp_pop_s, reduceIte, if_true, if_false, Bool.false_eq_true, Bool.true_eq_false, false_implies, implies_true, forall_const, true_implies, true_and, and_true, and_self, true_or, or_true, false_or, or_false, Value.category, List.length_cons, List.length_nil, Option.toList_some, Option.toList_none, List.cons_append, List.nil_append, List.append_nil, Prod.mk.injEq, Nat.add_zero, Nat.zero_add, Nat.reduceAdd, Nat.reduceSub, Nat.reduceEqDiff, Nat.reduceLeDiff, Nat.reduceLT, Nat.le_refl, beq_self_eq_true, Nat.reduceBEq, ne_eq, not_true_eq_false, not_false_eq_true, Int32.reduceAdd, Int32.reduceSub, Int32.reduceMul, Int32.reduceLE, Int32.reduceLT, Int32.reduceToNatClampNeg, b01_0, b01_1, ne_2_0, ne_3_0, ne_4_0, ne_5_0, ne_6_0, ne_m1_0, ne_m2_0, b01_01, b01_n, lt_m2, lt_m1, le_m2, le_m1, Classical.not_not, Bool.or_false, Bool.false_or, Bool.true_or, Bool.or_true, j_CP_fitAt_0, b_CP_fitAt_0, j_CP_fitAt_9, b_CP_fitAt_9, j_CP_fitAt_39, b_CP_fitAt_39, j_CP_fitAt_40, b_CP_fitAt_40, an_0, an_1, cl_1, ne_0_1, ne_0_m1, ne_0_m2, ne_1_0, ne_1_m1, ne_1_m2, ne_m1_0, ne_m1_1, ne_m1_m2, ne_m2_0, ne_m2_1, ne_m2_m1, pp_0_12, pp_0_7, pp_15_0, sh_0, sh_15, sh_42, vi_1]
    refine mid_i ?_
    refine c_Mod_fitAt (iv_n6 b0) (iv_n b0) hU' ?_ ?_ ?_
    · intro e
      exact absurd (iv_p0 b0 hn) e
    · intro e
      exact absurd (iv_p0 b0 hn) e
    · intro _
      exact fin_i rfl (iv_rn h0 n14)
end Pr9
