section Pr7
variable {g : cp_G} {d : Nat} {I M N : cp_I} {J : cp_J} {Q : cp_QT} {t u r x n s m : Nat}
theorem cpo_o {f a e i k b j : Nat} (h : ¬ b = e) : cpy I f a e i k b j = I b j := by
  unfold cpy
  rw [if_neg (by omega)]
theorem cpo_i {f a e i k j : Nat} (h1 : i ≤ j) (h2 : j < i + k) : cpy I f a e i k e j = I f (a + (j - i)) := by
  unfold cpy
  rw [if_pos ⟨rfl, h1, h2⟩]
theorem cpo_x {f a e i k j : Nat} (h : ¬ (i ≤ j ∧ j < i + k)) : cpy I f a e i k e j = I e j := by
  unfold cpy
  rw [if_neg (by omega)]
theorem sbM_o {p q a j : Nat} (h : ¬ a = 30) : sbM I p q a j = I a j := by
  unfold sbM
  rw [cp_u_at, if_neg (by omega), cp_u_at, if_neg (by omega)]
theorem iv_bOKf {m' : Nat} (ht : tk t) (h : bOK M t n m') (e : ∀ a j, (∃ k, k ≤ 9 ∧ a = t + k) ∨ (26 ≤ a ∧ a ≤ 29) → N a j = M a j) : bOK N t n m' := bOK_o h (fun k j hk => e _ j (Or.inl ⟨k, hk, rfl⟩)) (fun a j h1 h2 => e a j (Or.inr ⟨h1, h2⟩))
theorem pr_undo (h : Iv I t u) : PR g d m_CP_undo m_Mod_undo [] I J t u r x := by
  obtain ⟨⟨n, s, m, h0⟩, -, -⟩ := h
  have hB := h0.1
  have ht := iv_tk hB
  obtain ⟨p, q, qi, hf0⟩ := h0.2.1
  have hf : hiF I t n p q qi := hf0
  obtain ⟨hp, hq, hqi, f6, f7, f20, f8, f21, fr, fi⟩ := hf0
  by_cases hq0 : q = 0
  · unfold PR
    refine MW.of ok_CP_undo (Nat.le_of_ble_eq_true rfl) ?_
    refine cp_run 40 (fun _ => false) ck_CP_undo ?_
    simp only [cp_vc, cp_vs, cp_jm, cp_ent_en, cp_en_int, cp_en_ref, cp_en_ret, cp_en_long, cp_en_nil, cp_s1_at, cp_s2_at, cp_nl_int, cp_nl_ref, cp_nl_long, cp_nl_none, cp_pop_0, cp_pop_s, reduceIte, if_true, if_false, Bool.false_eq_true, Bool.true_eq_false, false_implies, implies_true, forall_const, true_implies, true_and, and_true, and_self, true_or, or_true, false_or, or_false, Value.category, List.length_cons, List.length_nil, Option.toList_some, Option.toList_none, List.cons_append, List.nil_append, List.append_nil, Prod.mk.injEq, Nat.add_zero, Nat.zero_add, Nat.reduceAdd, Nat.reduceSub, Nat.reduceEqDiff, Nat.reduceLeDiff, Nat.reduceLT, Nat.le_refl, beq_self_eq_true, Nat.reduceBEq, ne_eq, not_true_eq_false, not_false_eq_true, Int32.reduceAdd, Int32.reduceSub, Int32.reduceMul, Int32.reduceLE, Int32.reduceLT, Int32.reduceToNatClampNeg, b01_0, b01_1, ne_2_0, ne_3_0, ne_4_0, ne_5_0, ne_6_0, ne_m1_0, ne_m2_0, b01_01, b01_n, lt_m2, lt_m1, le_m2, le_m1, Classical.not_not, j_CP_undo_0, b_CP_undo_0, j_CP_undo_19, b_CP_undo_19, j_CP_undo_21, b_CP_undo_21, j_CP_undo_35, b_CP_undo_35, j_CP_undo_36, b_CP_undo_36, an_0, an_1, an_6, cl_0, cl_1, cl_6, ne_0_1, ne_0_6, ne_1_0, ne_1_6, ne_6_0, ne_6_1, pp_0_7, pp_0_8, sh_0, sh_15, sh_30, vi_0, vi_1, vi_6]
    refine c_Hist_stepBack (m := m) (m' := 0) (iv_cT hB) (iv_m hB) (mOK_lt (iv_mOK hB)) (iv_bOK hB) hp hq f6 f7 (fun z => by omega) ?_ ?_
    · intro z
      omega
    · intro _
      simp only [cp_kk, cp_vc, cp_vs, cp_jm, cp_ent_en, cp_en_int, cp_en_ref, cp_en_ret, cp_en_long, cp_en_nil, cp_s1_at, cp_s2_at, cp_nl_int, cp_nl_ref, cp_nl_long, cp_nl_none, cp_pop_0, cp_pop_s, reduceIte, if_true, if_false, Bool.false_eq_true, Bool.true_eq_false, false_implies, implies_true, forall_const, true_implies, true_and, and_true, and_self, true_or, or_true, false_or, or_false, Value.category, List.length_cons, List.length_nil, Option.toList_some, Option.toList_none, List.cons_append, List.nil_append, List.append_nil, Prod.mk.injEq, Nat.add_zero, Nat.zero_add, Nat.reduceAdd, Nat.reduceSub, Nat.reduceEqDiff, Nat.reduceLeDiff, Nat.reduceLT, Nat.le_refl, beq_self_eq_true, Nat.reduceBEq, ne_eq, not_true_eq_false, not_false_eq_true, Int32.reduceAdd, Int32.reduceSub, Int32.reduceMul, Int32.reduceLE, Int32.reduceLT, Int32.reduceToNatClampNeg, b01_0, b01_1, ne_2_0, ne_3_0, ne_4_0, ne_5_0, ne_6_0, ne_m1_0, ne_m2_0, b01_01, b01_n, lt_m2, lt_m1, le_m2, le_m1, Classical.not_not, Bool.or_false, Bool.false_or, Bool.true_or, Bool.or_true, j_CP_undo_0, b_CP_undo_0, j_CP_undo_19, b_CP_undo_19, j_CP_undo_21, b_CP_undo_21, j_CP_undo_35, b_CP_undo_35, j_CP_undo_36, b_CP_undo_36, an_0, an_1, an_6, cl_0, cl_1, cl_6, ne_0_1, ne_0_6, ne_1_0, ne_1_6, ne_6_0, ne_6_1, pp_0_7, pp_0_8, sh_0, sh_15, sh_30, vi_0, vi_1, vi_6, cp_u_at]
      rw [show cp_u I 0 2 6 = rfu I 6 from rfl]
      refine mid_i ?_
      refine c_Mod_undo hq (by rw [rfu_o (by omega)]; exact f20) ?_ ?_
      · intro z
        omega
      · intro _
        exact fin_i rfl (iv_rn h0 n64)
  · obtain ⟨s', m', hs', hm', x1, x2, x3⟩ := fr (q - 1) (by omega)
    have ix : (p + 16 - q + (q - 1)) % 16 = (p + 15) % 16 := by omega
    rw [ix] at x1 x2 x3
    have hn : 0 < n := by
      rcases Nat.eq_zero_or_pos n with z | z
      · have := (h0.2.2.2.1 z).2.2.2.1
        rw [f7] at this
        exact absurd this (nI_ne0 (by omega) (by omega))
      · exact z
    unfold PR
    refine MW.of ok_CP_undo (Nat.le_of_ble_eq_true rfl) ?_
    refine cp_run 40 (fun _ => false) ck_CP_undo ?_
    simp only [cp_vc, cp_vs, cp_jm, cp_ent_en, cp_en_int, cp_en_ref, cp_en_ret, cp_en_long, cp_en_nil, cp_s1_at, cp_s2_at, cp_nl_int, cp_nl_ref, cp_nl_long, cp_nl_none, cp_pop_0, cp_pop_s, reduceIte, if_true, if_false, Bool.false_eq_true, Bool.true_eq_false, false_implies, implies_true, forall_const, true_implies, true_and, and_true, and_self, true_or, or_true, false_or, or_false, Value.category, List.length_cons, List.length_nil, Option.toList_some, Option.toList_none, List.cons_append, List.nil_append, List.append_nil, Prod.mk.injEq, Nat.add_zero, Nat.zero_add, Nat.reduceAdd, Nat.reduceSub, Nat.reduceEqDiff, Nat.reduceLeDiff, Nat.reduceLT, Nat.le_refl, beq_self_eq_true, Nat.reduceBEq, ne_eq, not_true_eq_false, not_false_eq_true, Int32.reduceAdd, Int32.reduceSub, Int32.reduceMul, Int32.reduceLE, Int32.reduceLT, Int32.reduceToNatClampNeg, b01_0, b01_1, ne_2_0, ne_3_0, ne_4_0, ne_5_0, ne_6_0, ne_m1_0, ne_m2_0, b01_01, b01_n, lt_m2, lt_m1, le_m2, le_m1, Classical.not_not, j_CP_undo_0, b_CP_undo_0, j_CP_undo_19, b_CP_undo_19, j_CP_undo_21, b_CP_undo_21, j_CP_undo_35, b_CP_undo_35, j_CP_undo_36, b_CP_undo_36, an_0, an_1, an_6, cl_0, cl_1, cl_6, ne_0_1, ne_0_6, ne_1_0, ne_1_6, ne_6_0, ne_6_1, pp_0_7, pp_0_8, sh_0, sh_15, sh_30, vi_0, vi_1, vi_6]
    refine c_Hist_stepBack (m := m) (m' := m') (iv_cT hB) (iv_m hB) (mOK_lt (iv_mOK hB)) (iv_bOK hB) hp hq f6 f7 (fun _ => ⟨x2, mOK_lt hm'⟩) ?_ (fun z => absurd z hq0)
    intro _ M hM m1 m2 m3 mB
    simp only [cp_kk, cp_vc, cp_vs, cp_jm, cp_ent_en, cp_en_int, cp_en_ref, cp_en_ret, cp_en_long, cp_en_nil, cp_s1_at, cp_s2_at, cp_nl_int, cp_nl_ref, cp_nl_long, cp_nl_none, cp_pop_0, cp_pop_s, reduceIte, if_true, if_false, Bool.false_eq_true, Bool.true_eq_false, false_implies, implies_true, forall_const, true_implies, true_and, and_true, and_self, true_or, or_true, false_or, or_false, Value.category, List.length_cons, List.length_nil, Option.toList_some, Option.toList_none, List.cons_append, List.nil_append, List.append_nil, Prod.mk.injEq, Nat.add_zero, Nat.zero_add, Nat.reduceAdd, Nat.reduceSub, Nat.reduceEqDiff, Nat.reduceLeDiff, Nat.reduceLT, Nat.le_refl, beq_self_eq_true, Nat.reduceBEq, ne_eq, not_true_eq_false, not_false_eq_true, Int32.reduceAdd, Int32.reduceSub, Int32.reduceMul, Int32.reduceLE, Int32.reduceLT, Int32.reduceToNatClampNeg, b01_0, b01_1, ne_2_0, ne_3_0, ne_4_0, ne_5_0, ne_6_0, ne_m1_0, ne_m2_0, b01_01, b01_n, lt_m2, lt_m1, le_m2, le_m1, Classical.not_not, Bool.or_false, Bool.false_or, Bool.true_or, Bool.or_true, j_CP_undo_0, b_CP_undo_0, j_CP_undo_19, b_CP_undo_19, j_CP_undo_21, b_CP_undo_21, j_CP_undo_35, b_CP_undo_35, j_CP_undo_36, b_CP_undo_36, an_0, an_1, an_6, cl_0, cl_1, cl_6, ne_0_1, ne_0_6, ne_1_0, ne_1_6, ne_6_0, ne_6_1, pp_0_7, pp_0_8, sh_0, sh_15, sh_30, vi_0, vi_1, vi_6, cp_u_at]
    rw [show cp_u M 0 2 0 = rfu M 0 from rfl]
    refine mid_i ?_
    have Mo : ∀ a j, ¬ (26 ≤ a ∧ a ≤ 30) → ¬ a = 15 → M a j = I a j := fun a j h1 h2 => by rw [hM a j (by omega) (by omega), sbM_o (by omega)]
    refine c_Mod_undo hq (by rw [rfu_o (by omega), Mo 44 20 (by omega) (by omega)]; exact f20) ?_ (fun z => absurd z hq0)
    intro _
    refine fin_i rfl ?_
    have hNo : ∀ a j, ¬ a = 49 → ¬ a = 44 → ¬ a = 0 → cpy (cp_u (gd (rfu M 0)) 44 20 (nI (q - 1))) 50 (39 * (q - 1)) 49 0 39 a j = M a j := fun a j h1 h2 h3 => by
      rw [cpo_o h1, cp_u_at, if_neg (by omega), gd_o h2, rfu_o h3]
    have hNI : ∀ a j, ¬ a = 49 → ¬ a = 44 → ¬ a = 0 → ¬ (26 ≤ a ∧ a ≤ 30) → ¬ a = 15 → cpy (cp_u (gd (rfu M 0)) 44 20 (nI (q - 1))) 50 (39 * (q - 1)) 49 0 39 a j = I a j := fun a j h1 h2 h3 h4 h5 => by
      rw [hNo a j h1 h2 h3, Mo a j h4 h5]
    have hN44 : ∀ j, ¬ j = 20 → ¬ j = 0 → ¬ j = 11 → cpy (cp_u (gd (rfu M 0)) 44 20 (nI (q - 1))) 50 (39 * (q - 1)) 49 0 39 44 j = I 44 j := fun j h1 h2 h3 => by
      rw [cpo_o (by omega), cp_u_at, if_neg (by omega), gd_44 h2 h3, rfu_o (by omega), Mo 44 j (by omega) (by omega)]
    have hN0 : ∀ j, ¬ j = 2 → cpy (cp_u (gd (rfu M 0)) 44 20 (nI (q - 1))) 50 (39 * (q - 1)) 49 0 39 0 j = I 0 j := fun j h1 => by
      rw [cpo_o (by omega), cp_u_at, if_neg (by omega), gd_o (by omega), rfu_j h1, Mo 0 j (by omega) (by omega)]
    have hN20 : cpy (cp_u (gd (rfu M 0)) 44 20 (nI (q - 1))) 50 (39 * (q - 1)) 49 0 39 44 20 = nI (q - 1) := by
      rw [cpo_o (by omega), cp_u_at, if_pos ⟨rfl, rfl⟩]
    have hN02 : cpy (cp_u (gd (rfu M 0)) 44 20 (nI (q - 1))) 50 (39 * (q - 1)) 49 0 39 0 2 = 0 := by
      rw [cpo_o (by omega), cp_u_at, if_neg (by omega), gd_o (by omega), rfu_2]
    have hN11 : cpy (cp_u (gd (rfu M 0)) 44 20 (nI (q - 1))) 50 (39 * (q - 1)) 49 0 39 44 11 = 0 := by
      rw [cpo_o (by omega), cp_u_at, if_neg (by omega), gd_11]
    have hN49 : ∀ k, k < 39 → cpy (cp_u (gd (rfu M 0)) 44 20 (nI (q - 1))) 50 (39 * (q - 1)) 49 0 39 49 (0 + k) = I 50 (39 * (q - 1) + k) := fun k hk => by
      rw [cpo_i (by omega) (by omega), cp_u_at, if_neg (by omega), gd_o (by omega), rfu_o (by omega), Mo 50 _ (by omega) (by omega), show 39 * (q - 1) + (0 + k - 0) = 39 * (q - 1) + k by omega]
    generalize cpy (cp_u (gd (rfu M 0)) 44 20 (nI (q - 1))) 50 (39 * (q - 1)) 49 0 39 = N at *
    have tn : ∀ k, k ≤ 9 → ¬ t + k = 49 ∧ ¬ t + k = 44 ∧ ¬ t + k = 0 ∧ ¬ (26 ≤ t + k ∧ t + k ≤ 30) ∧ ¬ t + k = 15 := fun k hk => by
      have := wa_ne (wa_t ht hk)
      omega
    have e4 : ∀ j, N (t + 4) j = I (t + 4) j := fun j => by
      have := tn 4 (by omega)
      exact hNI _ j (by omega) (by omega) (by omega) (by omega) (by omega)
    have m3' : N 15 3 = I 33 ((p + 15) % 16) := by rw [hNo 15 3 (by omega) (by omega) (by omega)]; exact m3
    refine iv_of ⟨iv_act h0 hn hs' hm' ⟨fun a j ha => ?_, fun j hj => hN44 j (by omega) (by omega) (by omega), hN0⟩ ?_ ?_ ?_ ?_ ?_, hN02, hN11⟩
    · have := wa_ne ha
      exact hNI a j (by omega) (by omega) (by omega) (by omega) (by omega)
    · rw [hNo 15 1 (by omega) (by omega) (by omega), m1, x1]
    · rw [hNo 15 2 (by omega) (by omega) (by omega), m2]
    · rw [m3']
      exact rowR_c e4 hN49 x3
    · refine iv_bOKf ht mB (fun a j ha => ?_)
      rcases ha with ⟨k, hk, rfl⟩ | ha
      · have := tn k hk
        exact hNo _ j (by omega) (by omega) (by omega)
      · exact hNo a j (by omega) (by omega) (by omega)
    · refine ⟨(p + 15) % 16, q - 1, qi, Nat.mod_lt _ (by omega), by omega, hqi, ?_, ?_, hN20, ?_, ?_, fun j hj => ?_, fun j hj => ?_⟩
      · rw [hNo 30 6 (by omega) (by omega) (by omega), hM 30 6 (by omega) (by omega)]
        unfold sbM
        rw [cp_u_at, if_pos ⟨rfl, rfl⟩]
      · rw [hNo 30 7 (by omega) (by omega) (by omega), hM 30 7 (by omega) (by omega)]
        unfold sbM
        rw [cp_u_at, if_neg (by omega), cp_u_at, if_pos ⟨rfl, rfl⟩]
      · rw [hNo 30 8 (by omega) (by omega) (by omega), hM 30 8 (by omega) (by omega)]
        unfold sbM
        rw [cp_u_at, if_neg (by omega), cp_u_at, if_neg (by omega)]
        exact f8
      · rw [hN44 21 (by omega) (by omega) (by omega)]
        exact f21
      · rw [show ((p + 15) % 16 + 16 - (q - 1) + j) % 16 = (p + 16 - q + j) % 16 by omega, hNI 31 _ (by omega) (by omega) (by omega) (by omega) (by omega), hNI 32 _ (by omega) (by omega) (by omega) (by omega) (by omega), hNI 33 _ (by omega) (by omega) (by omega) (by omega) (by omega)]
        exact rowI_c e4 (fun k hk => hNI 50 _ (by omega) (by omega) (by omega) (by omega) (by omega)) (fr j (by omega))
      · rw [hNI 34 _ (by omega) (by omega) (by omega) (by omega) (by omega), hNI 35 _ (by omega) (by omega) (by omega) (by omega) (by omega), hNI 36 _ (by omega) (by omega) (by omega) (by omega) (by omega)]
        exact rowI_c e4 (fun k hk => hNI 51 _ (by omega) (by omega) (by omega) (by omega) (by omega)) (fi j hj)
theorem pr_back {i : Int32} (h : Iv I t u) : PR g d m_CP_back m_Mod_back [.int i] I J t u r x := by
  obtain ⟨⟨n, s, m, h0⟩, -, -⟩ := h
  have hB := h0.1
  have ht := iv_tk hB
  obtain ⟨p, q, qi, hf0⟩ := h0.2.1
  obtain ⟨hp, hq, hqi, f6, f7, f20, f8, f21, fr, fi⟩ := hf0
  by_cases hk : ∃ k, k < qi ∧ i = nI k
  · obtain ⟨k, hk, rfl⟩ := hk
    obtain ⟨s', m', hs', hm', x1, x2, x3⟩ := fi k hk
    have hn : 0 < n := by
      rcases Nat.eq_zero_or_pos n with z | z
      · have := (h0.2.2.2.1 z).2.2.2.2
        rw [f8] at this
        exact absurd this (nI_ne0 (by omega) (by omega))
      · exact z
    unfold PR
    refine MW.of ok_CP_back (Nat.le_of_ble_eq_true rfl) ?_
    refine cp_run 40 (fun _ => false) ck_CP_back ?_
    simp only [cp_vc, cp_vs, cp_jm, cp_ent_en, cp_en_int, cp_en_ref, cp_en_ret, cp_en_long, cp_en_nil, cp_s1_at, cp_s2_at, cp_nl_int, cp_nl_ref, cp_nl_long, cp_nl_none, cp_pop_0, cp_pop_s, reduceIte, if_true, if_false, Bool.false_eq_true, Bool.true_eq_false, false_implies, implies_true, forall_const, true_implies, true_and, and_true, and_self, true_or, or_true, false_or, or_false, Value.category, List.length_cons, List.length_nil, Option.toList_some, Option.toList_none, List.cons_append, List.nil_append, List.append_nil, Prod.mk.injEq, Nat.add_zero, Nat.zero_add, Nat.reduceAdd, Nat.reduceSub, Nat.reduceEqDiff, Nat.reduceLeDiff, Nat.reduceLT, Nat.le_refl, beq_self_eq_true, Nat.reduceBEq, ne_eq, not_true_eq_false, not_false_eq_true, Int32.reduceAdd, Int32.reduceSub, Int32.reduceMul, Int32.reduceLE, Int32.reduceLT, Int32.reduceToNatClampNeg, b01_0, b01_1, ne_2_0, ne_3_0, ne_4_0, ne_5_0, ne_6_0, ne_m1_0, ne_m2_0, b01_01, b01_n, lt_m2, lt_m1, le_m2, le_m1, Classical.not_not, j_CP_back_0, b_CP_back_0, j_CP_back_20, b_CP_back_20, j_CP_back_21, b_CP_back_21, j_CP_back_35, b_CP_back_35, j_CP_back_36, b_CP_back_36, an_0, an_1, cl_0, cl_1, ne_0_1, ne_1_0, pp_0_7, pp_0_8, sh_0, sh_15, sh_30, vi_0, vi_1]
    refine c_Hist_goTo (m := m) (m' := m') (iv_cT hB) (iv_m hB) (mOK_lt (iv_mOK hB)) (iv_bOK hB) hqi f8 (fun k' hk' e => ?_) ?_ (fun z => absurd ⟨k, hk, rfl⟩ z)
    · have e' : k = k' := (nI_eq (by omega) (by omega)).1 e
      subst e'
      exact ⟨x2, mOK_lt hm'⟩
    · intro k' hk' e M hM m1 m2 m3 mB
      have e' : k = k' := (nI_eq (by omega) (by omega)).1 e
      subst e'
      simp only [cp_kk, cp_vc, cp_vs, cp_jm, cp_ent_en, cp_en_int, cp_en_ref, cp_en_ret, cp_en_long, cp_en_nil, cp_s1_at, cp_s2_at, cp_nl_int, cp_nl_ref, cp_nl_long, cp_nl_none, cp_pop_0, cp_pop_s, reduceIte, if_true, if_false, Bool.false_eq_true, Bool.true_eq_false, false_implies, implies_true, forall_const, true_implies, true_and, and_true, and_self, true_or, or_true, false_or, or_false, Value.category, List.length_cons, List.length_nil, Option.toList_some, Option.toList_none, List.cons_append, List.nil_append, List.append_nil, Prod.mk.injEq, Nat.add_zero, Nat.zero_add, Nat.reduceAdd, Nat.reduceSub, Nat.reduceEqDiff, Nat.reduceLeDiff, Nat.reduceLT, Nat.le_refl, beq_self_eq_true, Nat.reduceBEq, ne_eq, not_true_eq_false, not_false_eq_true, Int32.reduceAdd, Int32.reduceSub, Int32.reduceMul, Int32.reduceLE, Int32.reduceLT, Int32.reduceToNatClampNeg, b01_0, b01_1, ne_2_0, ne_3_0, ne_4_0, ne_5_0, ne_6_0, ne_m1_0, ne_m2_0, b01_01, b01_n, lt_m2, lt_m1, le_m2, le_m1, Classical.not_not, Bool.or_false, Bool.false_or, Bool.true_or, Bool.or_true, j_CP_back_0, b_CP_back_0, j_CP_back_20, b_CP_back_20, j_CP_back_21, b_CP_back_21, j_CP_back_35, b_CP_back_35, j_CP_back_36, b_CP_back_36, an_0, an_1, cl_0, cl_1, ne_0_1, ne_1_0, pp_0_7, pp_0_8, sh_0, sh_15, sh_30, vi_0, vi_1, cp_u_at]
      rw [show cp_u (cp_u M 30 7 0) 0 2 0 = rfu (cp_u M 30 7 0) 0 from rfl]
      refine mid_i ?_
      have Mo : ∀ a j, ¬ (26 ≤ a ∧ a ≤ 29) → ¬ a = 15 → M a j = I a j := fun a j h1 h2 => hM a j (by omega) (by omega)
      refine c_Mod_back hqi (by rw [rfu_o (by omega), cp_u_at, if_neg (by omega), Mo 44 21 (by omega) (by omega)]; exact f21) ?_ ?_
      · intro k' e hk'
        have e' : k = k' := (nI_eq (by omega) (by omega)).1 e
        subst e'
        refine fin_i rfl ?_
        have hNo : ∀ a j, ¬ a = 49 → ¬ a = 44 → ¬ a = 0 → ¬ (a = 30 ∧ j = 7) → cp_u (cpy (gd (rfu (cp_u M 30 7 0) 0)) 51 (39 * k) 49 0 39) 44 20 0 a j = M a j := fun a j h1 h2 h3 h4 => by
          rw [cp_u_at, if_neg (by omega), cpo_o h1, gd_o h2, rfu_o h3, cp_u_at, if_neg h4]
        have hNI : ∀ a j, ¬ a = 49 → ¬ a = 44 → ¬ a = 0 → ¬ (a = 30 ∧ j = 7) → ¬ (26 ≤ a ∧ a ≤ 29) → ¬ a = 15 → cp_u (cpy (gd (rfu (cp_u M 30 7 0) 0)) 51 (39 * k) 49 0 39) 44 20 0 a j = I a j := fun a j h1 h2 h3 h4 h5 h6 => by
          rw [hNo a j h1 h2 h3 h4, Mo a j h5 h6]
        have hN44 : ∀ j, ¬ j = 20 → ¬ j = 0 → ¬ j = 11 → cp_u (cpy (gd (rfu (cp_u M 30 7 0) 0)) 51 (39 * k) 49 0 39) 44 20 0 44 j = I 44 j := fun j h1 h2 h3 => by
          rw [cp_u_at, if_neg (by omega), cpo_o (by omega), gd_44 h2 h3, rfu_o (by omega), cp_u_at, if_neg (by omega), Mo 44 j (by omega) (by omega)]
        have hN0 : ∀ j, ¬ j = 2 → cp_u (cpy (gd (rfu (cp_u M 30 7 0) 0)) 51 (39 * k) 49 0 39) 44 20 0 0 j = I 0 j := fun j h1 => by
          rw [cp_u_at, if_neg (by omega), cpo_o (by omega), gd_o (by omega), rfu_j h1, cp_u_at, if_neg (by omega), Mo 0 j (by omega) (by omega)]
        have hN20 : cp_u (cpy (gd (rfu (cp_u M 30 7 0) 0)) 51 (39 * k) 49 0 39) 44 20 0 44 20 = 0 := by
          rw [cp_u_at, if_pos ⟨rfl, rfl⟩]
        have hN307 : cp_u (cpy (gd (rfu (cp_u M 30 7 0) 0)) 51 (39 * k) 49 0 39) 44 20 0 30 7 = 0 := by
          rw [cp_u_at, if_neg (by omega), cpo_o (by omega), gd_o (by omega), rfu_o (by omega), cp_u_at, if_pos ⟨rfl, rfl⟩]
        have hN02 : cp_u (cpy (gd (rfu (cp_u M 30 7 0) 0)) 51 (39 * k) 49 0 39) 44 20 0 0 2 = 0 := by
          rw [cp_u_at, if_neg (by omega), cpo_o (by omega), gd_o (by omega), rfu_2]
        have hN11 : cp_u (cpy (gd (rfu (cp_u M 30 7 0) 0)) 51 (39 * k) 49 0 39) 44 20 0 44 11 = 0 := by
          rw [cp_u_at, if_neg (by omega), cpo_o (by omega), gd_11]
        have hN49 : ∀ z, z < 39 → cp_u (cpy (gd (rfu (cp_u M 30 7 0) 0)) 51 (39 * k) 49 0 39) 44 20 0 49 (0 + z) = I 51 (39 * k + z) := fun z hz => by
          rw [cp_u_at, if_neg (by omega), cpo_i (by omega) (by omega), gd_o (by omega), rfu_o (by omega), cp_u_at, if_neg (by omega), Mo 51 _ (by omega) (by omega), show 39 * k + (0 + z - 0) = 39 * k + z by omega]
        generalize cp_u (cpy (gd (rfu (cp_u M 30 7 0) 0)) 51 (39 * k) 49 0 39) 44 20 0 = N at *
        have tn : ∀ k, k ≤ 9 → ¬ t + k = 49 ∧ ¬ t + k = 44 ∧ ¬ t + k = 0 ∧ ¬ t + k = 30 ∧ ¬ (26 ≤ t + k ∧ t + k ≤ 29) ∧ ¬ t + k = 15 := fun k hk => by
          have := wa_ne (wa_t ht hk)
          omega
        have e4 : ∀ j, N (t + 4) j = I (t + 4) j := fun j => by
          have := tn 4 (by omega)
          exact hNI _ j (by omega) (by omega) (by omega) (by omega) (by omega) (by omega)
        refine iv_of ⟨iv_act h0 hn hs' hm' ⟨fun a j ha => ?_, fun j hj => hN44 j (by omega) (by omega) (by omega), hN0⟩ ?_ ?_ ?_ ?_ ?_, hN02, hN11⟩
        · have := wa_ne ha
          exact hNI a j (by omega) (by omega) (by omega) (by omega) (by omega) (by omega)
        · rw [hNo 15 1 (by omega) (by omega) (by omega) (by omega), m1, x1]
        · rw [hNo 15 2 (by omega) (by omega) (by omega) (by omega), m2]
        · rw [hNo 15 3 (by omega) (by omega) (by omega) (by omega), m3]
          exact rowR_c e4 hN49 x3
        · refine iv_bOKf ht mB (fun a j ha => ?_)
          rcases ha with ⟨k, hk, rfl⟩ | ha
          · have := tn k hk
            exact hNo _ j (by omega) (by omega) (by omega) (by omega)
          · exact hNo a j (by omega) (by omega) (by omega) (by omega)
        · refine ⟨p, 0, qi, hp, by omega, hqi, ?_, hN307, hN20, ?_, ?_, fun j hj => absurd hj (Nat.not_lt_zero _), fun j hj => ?_⟩
          · rw [hNI 30 6 (by omega) (by omega) (by omega) (by omega) (by omega) (by omega)]
            exact f6
          · rw [hNI 30 8 (by omega) (by omega) (by omega) (by omega) (by omega) (by omega)]
            exact f8
          · rw [hN44 21 (by omega) (by omega) (by omega)]
            exact f21
          · rw [hNI 34 _ (by omega) (by omega) (by omega) (by omega) (by omega) (by omega), hNI 35 _ (by omega) (by omega) (by omega) (by omega) (by omega) (by omega), hNI 36 _ (by omega) (by omega) (by omega) (by omega) (by omega) (by omega)]
            exact rowI_c e4 (fun k hk => hNI 51 _ (by omega) (by omega) (by omega) (by omega) (by omega) (by omega)) (fi j hj)
      · rintro (e | e)
        · exact absurd e (nI_pos (by omega))
        · obtain ⟨z, rfl⟩ : ∃ z, qi = z + 1 := ⟨qi - 1, by omega⟩
          rw [nI_pred] at e
          exact absurd e (nI_nlt (by omega) (by omega))
  · unfold PR
    refine MW.of ok_CP_back (Nat.le_of_ble_eq_true rfl) ?_
    refine cp_run 40 (fun _ => false) ck_CP_back ?_
    simp only [cp_vc, cp_vs, cp_jm, cp_ent_en, cp_en_int, cp_en_ref, cp_en_ret, cp_en_long, cp_en_nil, cp_s1_at, cp_s2_at, cp_nl_int, cp_nl_ref, cp_nl_long, cp_nl_none, cp_pop_0, cp_pop_s, reduceIte, if_true, if_false, Bool.false_eq_true, Bool.true_eq_false, false_implies, implies_true, forall_const, true_implies, true_and, and_true, and_self, true_or, or_true, false_or, or_false, Value.category, List.length_cons, List.length_nil, Option.toList_some, Option.toList_none, List.cons_append, List.nil_append, List.append_nil, Prod.mk.injEq, Nat.add_zero, Nat.zero_add, Nat.reduceAdd, Nat.reduceSub, Nat.reduceEqDiff, Nat.reduceLeDiff, Nat.reduceLT, Nat.le_refl, beq_self_eq_true, Nat.reduceBEq, ne_eq, not_true_eq_false, not_false_eq_true, Int32.reduceAdd, Int32.reduceSub, Int32.reduceMul, Int32.reduceLE, Int32.reduceLT, Int32.reduceToNatClampNeg, b01_0, b01_1, ne_2_0, ne_3_0, ne_4_0, ne_5_0, ne_6_0, ne_m1_0, ne_m2_0, b01_01, b01_n, lt_m2, lt_m1, le_m2, le_m1, Classical.not_not, j_CP_back_0, b_CP_back_0, j_CP_back_20, b_CP_back_20, j_CP_back_21, b_CP_back_21, j_CP_back_35, b_CP_back_35, j_CP_back_36, b_CP_back_36, an_0, an_1, cl_0, cl_1, ne_0_1, ne_1_0, pp_0_7, pp_0_8, sh_0, sh_15, sh_30, vi_0, vi_1]
    refine c_Hist_goTo (m := m) (m' := 0) (iv_cT hB) (iv_m hB) (mOK_lt (iv_mOK hB)) (iv_bOK hB) hqi f8 (fun k' hk' e => absurd ⟨k', hk', e⟩ hk) (fun k' hk' e => absurd ⟨k', hk', e⟩ hk) ?_
    intro _
    simp only [cp_kk, cp_vc, cp_vs, cp_jm, cp_ent_en, cp_en_int, cp_en_ref, cp_en_ret, cp_en_long, cp_en_nil, cp_s1_at, cp_s2_at, cp_nl_int, cp_nl_ref, cp_nl_long, cp_nl_none, cp_pop_0, cp_pop_s, reduceIte, if_true, if_false, Bool.false_eq_true, Bool.true_eq_false, false_implies, implies_true, forall_const, true_implies, true_and, and_true, and_self, true_or, or_true, false_or, or_false, Value.category, List.length_cons, List.length_nil, Option.toList_some, Option.toList_none, List.cons_append, List.nil_append, List.append_nil, Prod.mk.injEq, Nat.add_zero, Nat.zero_add, Nat.reduceAdd, Nat.reduceSub, Nat.reduceEqDiff, Nat.reduceLeDiff, Nat.reduceLT, Nat.le_refl, beq_self_eq_true, Nat.reduceBEq, ne_eq, not_true_eq_false, not_false_eq_true, Int32.reduceAdd, Int32.reduceSub, Int32.reduceMul, Int32.reduceLE, Int32.reduceLT, Int32.reduceToNatClampNeg, b01_0, b01_1, ne_2_0, ne_3_0, ne_4_0, ne_5_0, ne_6_0, ne_m1_0, ne_m2_0, b01_01, b01_n, lt_m2, lt_m1, le_m2, le_m1, Classical.not_not, Bool.or_false, Bool.false_or, Bool.true_or, Bool.or_true, j_CP_back_0, b_CP_back_0, j_CP_back_20, b_CP_back_20, j_CP_back_21, b_CP_back_21, j_CP_back_35, b_CP_back_35, j_CP_back_36, b_CP_back_36, an_0, an_1, cl_0, cl_1, ne_0_1, ne_1_0, pp_0_7, pp_0_8, sh_0, sh_15, sh_30, vi_0, vi_1, cp_u_at]
    rw [show cp_u I 0 2 1 = rfu I 1 from rfl]
    refine mid_i ?_
    refine c_Mod_back hqi (by rw [rfu_o (by omega)]; exact f21) ?_ ?_
    · intro k' e hk'
      exact absurd ⟨k', hk', e⟩ hk
    · intro _
      exact fin_i rfl (iv_rn h0 n14)
theorem pr_image (h : Iv I t u) : PR g d m_CP_image m_Mod_image [] I J t u r x := by
  obtain ⟨⟨n, s, m, h0⟩, -, -⟩ := h
  have hB := h0.1
  have ht := iv_tk hB
  have b0 := (iv_rf h0 1).1
  have b1 := (iv_rf h0 0).1
  have b3 := (iv_rf h0 3).1
  obtain ⟨p, q, qi, hf0⟩ := (iv_rf h0 0).2.1
  obtain ⟨hp, hq, hqi, f6, f7, f20, f8, f21, fr, fi⟩ := hf0
  have u0 : I 44 21 = nI qi := by
    have := f21
    rw [rfu_o (by omega)] at this
    exact this
  unfold PR
  refine MW.of ok_CP_image (Nat.le_of_ble_eq_true rfl) ?_
  refine cp_run 40 (fun _ => false) ck_CP_image ?_
  simp only [cp_vc, cp_vs, cp_jm, cp_ent_en, cp_en_int, cp_en_ref, cp_en_ret, cp_en_long, cp_en_nil, cp_s1_at, cp_s2_at, cp_nl_int, cp_nl_ref, cp_nl_long, cp_nl_none, cp_pop_0, cp_pop_s, reduceIte, if_true, if_false, Bool.false_eq_true, Bool.true_eq_false, false_implies, implies_true, forall_const, true_implies, true_and, and_true, and_self, true_or, or_true, false_or, or_false, Value.category, List.length_cons, List.length_nil, Option.toList_some, Option.toList_none, List.cons_append, List.nil_append, List.append_nil, Prod.mk.injEq, Nat.add_zero, Nat.zero_add, Nat.reduceAdd, Nat.reduceSub, Nat.reduceEqDiff, Nat.reduceLeDiff, Nat.reduceLT, Nat.le_refl, beq_self_eq_true, Nat.reduceBEq, ne_eq, not_true_eq_false, not_false_eq_true, Int32.reduceAdd, Int32.reduceSub, Int32.reduceMul, Int32.reduceLE, Int32.reduceLT, Int32.reduceToNatClampNeg, b01_0, b01_1, ne_2_0, ne_3_0, ne_4_0, ne_5_0, ne_6_0, ne_m1_0, ne_m2_0, b01_01, b01_n, lt_m2, lt_m1, le_m2, le_m1, Classical.not_not, j_CP_image_0, b_CP_image_0, j_CP_image_9, b_CP_image_9, j_CP_image_35, b_CP_image_35, j_CP_image_36, b_CP_image_36, an_0, an_1, an_3, cl_3, ne_0_1, ne_0_3, ne_0_m1, ne_0_m2, ne_1_0, ne_1_3, ne_1_m1, ne_1_m2, ne_3_0, ne_3_1, ne_3_m1, ne_3_m2, ne_m1_0, ne_m1_1, ne_m1_3, ne_m1_m2, ne_m2_0, ne_m2_1, ne_m2_3, ne_m2_m1, pp_0_7, pp_0_8, sh_0, sh_15, sh_30, vi_3]
  refine c_CP_isTold (n := n) (iv_tk hB) (iv_n6 hB) (iv_cn hB) ?_ ?_
  · intro hn
    simp only [cp_kk, cp_vc, cp_vs, cp_jm, cp_ent_en, cp_en_int, cp_en_ref, cp_en_ret, cp_en_long, cp_en_nil, cp_s1_at, cp_s2_at, cp_nl_int, cp_nl_ref, cp_nl_long, cp_nl_none, cp_pop_0, cp_pop_s, reduceIte, if_true, if_false, Bool.false_eq_true, Bool.true_eq_false, false_implies, implies_true, forall_const, true_implies, true_and, and_true, and_self, true_or, or_true, false_or, or_false, Value.category, List.length_cons, List.length_nil, Option.toList_some, Option.toList_none, List.cons_append, List.nil_append, List.append_nil, Prod.mk.injEq, Nat.add_zero, Nat.zero_add, Nat.reduceAdd, Nat.reduceSub, Nat.reduceEqDiff, Nat.reduceLeDiff, Nat.reduceLT, Nat.le_refl, beq_self_eq_true, Nat.reduceBEq, ne_eq, not_true_eq_false, not_false_eq_true, Int32.reduceAdd, Int32.reduceSub, Int32.reduceMul, Int32.reduceLE, Int32.reduceLT, Int32.reduceToNatClampNeg, b01_0, b01_1, ne_2_0, ne_3_0, ne_4_0, ne_5_0, ne_6_0, ne_m1_0, ne_m2_0, b01_01, b01_n, lt_m2, lt_m1, le_m2, le_m1, Classical.not_not, Bool.or_false, Bool.false_or, Bool.true_or, Bool.or_true, j_CP_image_0, b_CP_image_0, j_CP_image_9, b_CP_image_9, j_CP_image_35, b_CP_image_35, j_CP_image_36, b_CP_image_36, an_0, an_1, an_3, cl_3, ne_0_1, ne_0_3, ne_0_m1, ne_0_m2, ne_1_0, ne_1_3, ne_1_m1, ne_1_m2, ne_3_0, ne_3_1, ne_3_m1, ne_3_m2, ne_m1_0, ne_m1_1, ne_m1_3, ne_m1_m2, ne_m2_0, ne_m2_1, ne_m2_3, ne_m2_m1, pp_0_7, pp_0_8, sh_0, sh_15, sh_30, vi_3]
    refine c_Hist_takeImage hqi f8 ?_ ?_
    · intro hq3
      have hne : ¬ nI qi = -2 := fun e => nI_pos (show qi < 2 ^ 31 by omega) (by rw [e]; decide +kernel)
      simp only [cp_kk, cp_vc, cp_vs, cp_jm, cp_ent_en, cp_en_int, cp_en_ref, cp_en_ret, cp_en_long, cp_en_nil, cp_s1_at, cp_s2_at, cp_nl_int, cp_nl_ref, cp_nl_long, cp_nl_none, cp_pop_0, cp_pop_s, reduceIte, if_true, if_false, Bool.false_eq_true, Bool.true_eq_false, false_implies, implies_true, forall_const, true_implies, true_and, and_true, and_self, true_or, or_true, false_or, or_false, Value.category, List.length_cons, List.length_nil, Option.toList_some, Option.toList_none, List.cons_append, List.nil_append, List.append_nil, Prod.mk.injEq, Nat.add_zero, Nat.zero_add, Nat.reduceAdd, Nat.reduceSub, Nat.reduceEqDiff, Nat.reduceLeDiff, Nat.reduceLT, Nat.le_refl, beq_self_eq_true, Nat.reduceBEq, ne_eq, not_true_eq_false, not_false_eq_true, Int32.reduceAdd, Int32.reduceSub, Int32.reduceMul, Int32.reduceLE, Int32.reduceLT, Int32.reduceToNatClampNeg, b01_0, b01_1, ne_2_0, ne_3_0, ne_4_0, ne_5_0, ne_6_0, ne_m1_0, ne_m2_0, b01_01, b01_n, lt_m2, lt_m1, le_m2, le_m1, Classical.not_not, Bool.or_false, Bool.false_or, Bool.true_or, Bool.or_true, j_CP_image_0, b_CP_image_0, j_CP_image_9, b_CP_image_9, j_CP_image_35, b_CP_image_35, j_CP_image_36, b_CP_image_36, an_0, an_1, an_3, cl_3, ne_0_1, ne_0_3, ne_0_m1, ne_0_m2, ne_1_0, ne_1_3, ne_1_m1, ne_1_m2, ne_3_0, ne_3_1, ne_3_m1, ne_3_m2, ne_m1_0, ne_m1_1, ne_m1_3, ne_m1_m2, ne_m2_0, ne_m2_1, ne_m2_3, ne_m2_m1, pp_0_7, pp_0_8, sh_0, sh_15, sh_30, vi_3, hne]
      refine mid_i ?_
      have Mo : ∀ a j, ¬ (a = 34 ∨ a = 35 ∨ a = 36) → ¬ (a = 30 ∧ j = 8) → tiM (rfu I 0) qi a j = rfu I 0 a j := fun a j h1 h2 => by
        unfold tiM
        rw [cp_u_at, if_neg (by omega), cp_u_at, if_neg (by omega), cp_u_at, if_neg (by omega), cp_u_at, if_neg (by omega)]
      have hp14 : ¬ tiM (rfu I 0) qi 44 14 = 0 := by
        rw [Mo 44 14 (by omega) (by omega)]
        exact iv_p1 b1 hn
      refine c_Mod_image hqi (by rw [Mo 44 21 (by omega) (by omega)]; exact f21) ?_ ?_ ?_
      · intro _ _
        refine fin_i rfl ?_
        have hNo : ∀ a j, ¬ a = 51 → ¬ a = 44 → cp_u (cpy (gd (tiM (rfu I 0) qi)) 49 0 51 (39 * qi) 39) 44 21 (nI (qi + 1)) a j = tiM (rfu I 0) qi a j := fun a j h1 h2 => by
          rw [cp_u_at, if_neg (by omega), cpo_o h1, gd_o h2]
        have hNI : ∀ a j, ¬ a = 51 → ¬ a = 44 → ¬ (a = 34 ∨ a = 35 ∨ a = 36) → ¬ (a = 30 ∧ j = 8) → cp_u (cpy (gd (tiM (rfu I 0) qi)) 49 0 51 (39 * qi) 39) 44 21 (nI (qi + 1)) a j = rfu I 0 a j := fun a j h1 h2 h3 h4 => by
          rw [hNo a j h1 h2, Mo a j h3 h4]
        have hN44 : ∀ j, ¬ j = 21 → ¬ j = 0 → ¬ j = 11 → cp_u (cpy (gd (tiM (rfu I 0) qi)) 49 0 51 (39 * qi) 39) 44 21 (nI (qi + 1)) 44 j = rfu I 0 44 j := fun j h1 h2 h3 => by
          rw [cp_u_at, if_neg (by omega), cpo_o (by omega), gd_44 h2 h3, Mo 44 j (by omega) (by omega)]
        have hN21 : cp_u (cpy (gd (tiM (rfu I 0) qi)) 49 0 51 (39 * qi) 39) 44 21 (nI (qi + 1)) 44 21 = nI (qi + 1) := by
          rw [cp_u_at, if_pos ⟨rfl, rfl⟩]
        have hN11 : cp_u (cpy (gd (tiM (rfu I 0) qi)) 49 0 51 (39 * qi) 39) 44 21 (nI (qi + 1)) 44 11 = 0 := by
          rw [cp_u_at, if_neg (by omega), cpo_o (by omega), gd_11]
        have hN51 : ∀ k, cp_u (cpy (gd (tiM (rfu I 0) qi)) 49 0 51 (39 * qi) 39) 44 21 (nI (qi + 1)) 51 k = if 39 * qi ≤ k ∧ k < 39 * qi + 39 then rfu I 0 49 (k - 39 * qi) else rfu I 0 51 k := fun k => by
          rw [cp_u_at, if_neg (by omega)]
          by_cases c : 39 * qi ≤ k ∧ k < 39 * qi + 39
          · rw [if_pos c, cpo_i c.1 c.2, gd_o (by omega), Mo 49 _ (by omega) (by omega), Nat.zero_add]
          · rw [if_neg c, cpo_x c, gd_o (by omega), Mo 51 _ (by omega) (by omega)]
        have hT : ∀ j, tiM (rfu I 0) qi 34 j = (if j = qi then rfu I 0 15 1 else rfu I 0 34 j) ∧ tiM (rfu I 0) qi 35 j = (if j = qi then rfu I 0 15 2 else rfu I 0 35 j) ∧ tiM (rfu I 0) qi 36 j = (if j = qi then rfu I 0 15 3 else rfu I 0 36 j) := fun j => by
          unfold tiM
          by_cases e : j = qi
          · simp [cp_u_at, e]
          · simp [cp_u_at, e]
        have hT8 : tiM (rfu I 0) qi 30 8 = nI (qi + 1) := by
          unfold tiM
          rw [cp_u_at, if_pos ⟨rfl, rfl⟩]
        have hN34 := fun j => hNo 34 j (by omega) (by omega)
        have hN35 := fun j => hNo 35 j (by omega) (by omega)
        have hN36 := fun j => hNo 36 j (by omega) (by omega)
        have hN308 := hNo 30 8 (by omega) (by omega)
        generalize cp_u (cpy (gd (tiM (rfu I 0) qi)) 49 0 51 (39 * qi) 39) 44 21 (nI (qi + 1)) = N at *
        have tn : ∀ k, k ≤ 9 → ¬ t + k = 51 ∧ ¬ t + k = 44 ∧ ¬ (t + k = 34 ∨ t + k = 35 ∨ t + k = 36) ∧ ¬ t + k = 30 := fun k hk => by
          have := wa_ne (wa_t ht hk)
          omega
        have e4 : ∀ j, N (t + 4) j = rfu I 0 (t + 4) j := fun j => by
          have := tn 4 (by omega)
          exact hNI _ j (by omega) (by omega) (by omega) (by omega)
        refine iv_of ⟨iv_act (iv_rf h0 0) hn (iv_s b1) (iv_mOK b1) ⟨fun a j ha => ?_, fun j hj => hN44 j (by omega) (by omega) (by omega), fun j _ => hNI 0 j (by omega) (by omega) (by omega) (by omega)⟩ ?_ ?_ ?_ ?_ ?_, ?_, hN11⟩
        · have := wa_ne ha
          exact hNI a j (by omega) (by omega) (by omega) (by omega)
        · rw [hNI 15 1 (by omega) (by omega) (by omega) (by omega)]
          exact iv_in b1
        · rw [hNI 15 2 (by omega) (by omega) (by omega) (by omega)]
          exact iv_m b1
        · rw [hNI 15 3 (by omega) (by omega) (by omega) (by omega)]
          exact rowR_c e4 (fun k hk => hNI 49 _ (by omega) (by omega) (by omega) (by omega)) (iv_row b1)
        · refine iv_bOKf ht (iv_bOK b1) (fun a j ha => ?_)
          rcases ha with ⟨k, hk, rfl⟩ | ha
          · have := tn k hk
            exact hNI _ j (by omega) (by omega) (by omega) (by omega)
          · exact hNI a j (by omega) (by omega) (by omega) (by omega)
        · refine ⟨p, q, qi + 1, hp, hq, by omega, ?_, ?_, ?_, ?_, hN21, fun j hj => ?_, fun j hj => ?_⟩
          · rw [hNI 30 6 (by omega) (by omega) (by omega) (by omega)]
            exact f6
          · rw [hNI 30 7 (by omega) (by omega) (by omega) (by omega)]
            exact f7
          · rw [hN44 20 (by omega) (by omega) (by omega)]
            exact f20
          · rw [hN308, hT8]
          · rw [hNI 31 _ (by omega) (by omega) (by omega) (by omega), hNI 32 _ (by omega) (by omega) (by omega) (by omega), hNI 33 _ (by omega) (by omega) (by omega) (by omega)]
            exact rowI_c e4 (fun k hk => hNI 50 _ (by omega) (by omega) (by omega) (by omega)) (fr j hj)
          · rw [hN34, hN35, hN36, (hT j).1, (hT j).2.1, (hT j).2.2]
            by_cases e : j = qi
            · rw [if_pos e, if_pos e, if_pos e, e]
              refine rowI_c e4 (fun k hk => ?_) (⟨s, m, iv_s b1, iv_mOK b1, iv_in b1, iv_m b1, iv_row b1⟩ : rowI (rfu I 0) t n 49 0 (rfu I 0 15 1) (rfu I 0 15 2) (rfu I 0 15 3))
              rw [hN51, if_pos (by omega), show 39 * qi + k - 39 * qi = 0 + k by omega]
            · rw [if_neg e, if_neg e, if_neg e]
              refine rowI_c e4 (fun k hk => ?_) (fi j (by omega))
              rw [hN51, if_neg (by omega)]
        · rw [hNI 0 2 (by omega) (by omega) (by omega) (by omega)]
          exact rfu_2
      · intro _ e
        omega
      · intro e
        exact absurd e hp14
    · intro hq3
      simp only [cp_kk, cp_vc, cp_vs, cp_jm, cp_ent_en, cp_en_int, cp_en_ref, cp_en_ret, cp_en_long, cp_en_nil, cp_s1_at, cp_s2_at, cp_nl_int, cp_nl_ref, cp_nl_long, cp_nl_none, cp_pop_0, cp_pop_s, reduceIte, if_true, if_false, Bool.false_eq_true, Bool.true_eq_false, false_implies, implies_true, forall_const, true_implies, true_and, and_true, and_self, true_or, or_true, false_or, or_false, Value.category, List.length_cons, List.length_nil, Option.toList_some, Option.toList_none, List.cons_append, List.nil_append, List.append_nil, Prod.mk.injEq, Nat.add_zero, Nat.zero_add, Nat.reduceAdd, Nat.reduceSub, Nat.reduceEqDiff, Nat.reduceLeDiff, Nat.reduceLT, Nat.le_refl, beq_self_eq_true, Nat.reduceBEq, ne_eq, not_true_eq_false, not_false_eq_true, Int32.reduceAdd, Int32.reduceSub, Int32.reduceMul, Int32.reduceLE, Int32.reduceLT, Int32.reduceToNatClampNeg, b01_0, b01_1, ne_2_0, ne_3_0, ne_4_0, ne_5_0, ne_6_0, ne_m1_0, ne_m2_0, b01_01, b01_n, lt_m2, lt_m1, le_m2, le_m1, Classical.not_not, Bool.or_false, Bool.false_or, Bool.true_or, Bool.or_true, j_CP_image_0, b_CP_image_0, j_CP_image_9, b_CP_image_9, j_CP_image_35, b_CP_image_35, j_CP_image_36, b_CP_image_36, an_0, an_1, an_3, cl_3, ne_0_1, ne_0_3, ne_0_m1, ne_0_m2, ne_1_0, ne_1_3, ne_1_m1, ne_1_m2, ne_3_0, ne_3_1, ne_3_m1, ne_3_m2, ne_m1_0, ne_m1_1, ne_m1_3, ne_m1_m2, ne_m2_0, ne_m2_1, ne_m2_3, ne_m2_m1, pp_0_7, pp_0_8, sh_0, sh_15, sh_30, vi_3]
      refine c_CP_refuse ?_
      simp only [cp_kk, cp_vc, cp_vs, cp_jm, cp_ent_en, cp_en_int, cp_en_ref, cp_en_ret, cp_en_long, cp_en_nil, cp_s1_at, cp_s2_at, cp_nl_int, cp_nl_ref, cp_nl_long, cp_nl_none, cp_pop_0, cp_pop_s, reduceIte, if_true, if_false, Bool.false_eq_true, Bool.true_eq_false, false_implies, implies_true, forall_const, true_implies, true_and, and_true, and_self, true_or, or_true, false_or, or_false, Value.category, List.length_cons, List.length_nil, Option.toList_some, Option.toList_none, List.cons_append, List.nil_append, List.append_nil, Prod.mk.injEq, Nat.add_zero, Nat.zero_add, Nat.reduceAdd, Nat.reduceSub, Nat.reduceEqDiff, Nat.reduceLeDiff, Nat.reduceLT, Nat.le_refl, beq_self_eq_true, Nat.reduceBEq, ne_eq, not_true_eq_false, not_false_eq_true, Int32.reduceAdd, Int32.reduceSub, Int32.reduceMul, Int32.reduceLE, Int32.reduceLT, Int32.reduceToNatClampNeg, b01_0, b01_1, ne_2_0, ne_3_0, ne_4_0, ne_5_0, ne_6_0, ne_m1_0, ne_m2_0, b01_01, b01_n, lt_m2, lt_m1, le_m2, le_m1, Classical.not_not, Bool.or_false, Bool.false_or, Bool.true_or, Bool.or_true, j_CP_image_0, b_CP_image_0, j_CP_image_9, b_CP_image_9, j_CP_image_35, b_CP_image_35, j_CP_image_36, b_CP_image_36, an_0, an_1, an_3, cl_3, ne_0_1, ne_0_3, ne_0_m1, ne_0_m2, ne_1_0, ne_1_3, ne_1_m1, ne_1_m2, ne_3_0, ne_3_1, ne_3_m1, ne_3_m2, ne_m1_0, ne_m1_1, ne_m1_3, ne_m1_m2, ne_m2_0, ne_m2_1, ne_m2_3, ne_m2_m1, pp_0_7, pp_0_8, sh_0, sh_15, sh_30, vi_3]
      rw [show rfu (rfu I 0) 3 = rfu I 3 from rfu_rfu]
      refine mid_i ?_
      refine c_Mod_image hqi (by rw [rfu_o (by omega)]; exact u0) ?_ ?_ ?_
      · intro _ e
        omega
      · intro _ _
        exact fin_i rfl (iv_rn h0 n34)
      · intro e
        exact absurd e (iv_p1 b3 hn)
  · intro hn
    simp only [cp_kk, cp_vc, cp_vs, cp_jm, cp_ent_en, cp_en_int, cp_en_ref, cp_en_ret, cp_en_long, cp_en_nil, cp_s1_at, cp_s2_at, cp_nl_int, cp_nl_ref, cp_nl_long, cp_nl_none, cp_pop_0, cp_pop_s, reduceIte, if_true, if_false, Bool.false_eq_true, Bool.true_eq_false, false_implies, implies_true, forall_const, true_implies, true_and, and_true, and_self, true_or, or_true, false_or, or_false, Value.category, List.length_cons, List.length_nil, Option.toList_some, Option.toList_none, List.cons_append, List.nil_append, List.append_nil, Prod.mk.injEq, Nat.add_zero, Nat.zero_add, Nat.reduceAdd, Nat.reduceSub, Nat.reduceEqDiff, Nat.reduceLeDiff, Nat.reduceLT, Nat.le_refl, beq_self_eq_true, Nat.reduceBEq, ne_eq, not_true_eq_false, not_false_eq_true, Int32.reduceAdd, Int32.reduceSub, Int32.reduceMul, Int32.reduceLE, Int32.reduceLT, Int32.reduceToNatClampNeg, b01_0, b01_1, ne_2_0, ne_3_0, ne_4_0, ne_5_0, ne_6_0, ne_m1_0, ne_m2_0, b01_01, b01_n, lt_m2, lt_m1, le_m2, le_m1, Classical.not_not, Bool.or_false, Bool.false_or, Bool.true_or, Bool.or_true, j_CP_image_0, b_CP_image_0, j_CP_image_9, b_CP_image_9, j_CP_image_35, b_CP_image_35, j_CP_image_36, b_CP_image_36, an_0, an_1, an_3, cl_3, ne_0_1, ne_0_3, ne_0_m1, ne_0_m2, ne_1_0, ne_1_3, ne_1_m1, ne_1_m2, ne_3_0, ne_3_1, ne_3_m1, ne_3_m2, ne_m1_0, ne_m1_1, ne_m1_3, ne_m1_m2, ne_m2_0, ne_m2_1, ne_m2_3, ne_m2_m1, pp_0_7, pp_0_8, sh_0, sh_15, sh_30, vi_3]
    refine mid_i ?_
    refine c_Mod_image hqi (by rw [rfu_o (by omega)]; exact u0) ?_ ?_ ?_
    · intro e
      exact absurd (iv_p0 b0 hn) e
    · intro e
      exact absurd (iv_p0 b0 hn) e
    · intro _
      exact fin_i rfl (iv_rn h0 n14)
end Pr7
