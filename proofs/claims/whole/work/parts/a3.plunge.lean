section Plg
variable {g : cp_G} {d : Nat} {sh : cp_H} {I M N : cp_I} {J : cp_J} {P : cp_P} {Q : cp_QT} {t u r x n s m : Nat} {T : Nat → Nat}
/-! plunge -/
theorem eN_lines : ∀ (m : Nat) (s : pS), eN (p_lines T n m s)
  | 0, s => eN_ok _
  | m + 1, s => by
    refine eN_b (eN_line s) (fun a => ?_)
    by_cases e : ts T n a.1 = 59
    · rw [if_pos e]
      exact eN_lines m _
    · rw [if_neg e]
      by_cases e0 : ts T n a.1 = 0
      · rw [if_pos e0]
        exact eN_ok _
      · rw [if_neg e0]
        exact eN_er z1
theorem eN_text : eN (p_text T n) := by
  refine eN_b (eN_lines 901 _) (fun a => ?_)
  by_cases e : a.2.2.length = 0
  · rw [if_pos e]
    exact eN_er z6
  · rw [if_neg e]
    exact eN_ok _
theorem cFr_f {F F' : Nat → Int32} (h : cFr F M u) (eF : ∀ j, j < 84 → F' j = F j) (eM : ∀ k, k ≤ 9 → ∀ j, N (u + k) j = M (u + k) j) (h4 : (F 4).toNatClampNeg ≤ 6) (h7 : (F 7).toNatClampNeg ≤ 4) (h8 : (F 8).toNatClampNeg ≤ 4) : cFr F' N u := by
  obtain ⟨⟨a0, a1, a2, a3, a4, a6, a7⟩, hb, ht, hu, hf, m, m1, m2, m3⟩ := h
  have e0 : ∀ j, N u j = M u j := eM 0 (by omega)
  refine ⟨⟨?_, ?_, ?_, ?_, ?_, ?_, ?_⟩, fun b hb' => ?_, fun a b ha hb' => ?_, fun k hk => ?_, fun k hk => ?_, m, m1, ?_, fun a b ha hb' hab => ?_⟩
  · rw [e0, eF 0 (by omega)]; exact a0
  · rw [e0, eF 1 (by omega)]; exact a1
  · rw [e0, eF 2 (by omega)]; exact a2
  · rw [e0, eF 3 (by omega)]; exact a3
  · rw [e0, eF 4 (by omega)]; exact a4
  · rw [e0, eF 7 (by omega)]; exact a6
  · rw [e0, eF 8 (by omega)]; exact a7
  · rw [eF 4 (by omega)] at hb'
    rw [eM 2 (by omega), eM 3 (by omega), eF _ (by omega), eF _ (by omega)]
    exact hb b hb'
  · rw [eM 4 (by omega), eF _ (by omega)]
    exact ht a b ha hb'
  · rw [eF 7 (by omega)] at hk
    rw [eM 5 (by omega), eM 6 (by omega), eM 7 (by omega), eF _ (by omega), eF _ (by omega), eF _ (by omega)]
    exact hu k hk
  · rw [eF 8 (by omega)] at hk
    rw [eM 8 (by omega), eM 9 (by omega), eF _ (by omega), eF _ (by omega)]
    exact hf k hk
  · rw [e0]; exact m2
  · rw [eF _ (by omega)]
    exact m3 a b ha hb' hab
theorem tw_e {F F' : Nat → Int32} {l : Nat} (h : tw F l) (hl : l ≤ 6) (e : ∀ j, j < 84 → F' j = F j) (h7 : (F 7).toNatClampNeg ≤ 4) (h8 : (F 8).toNatClampNeg ≤ 4) : tw F' l :=
  ⟨tw1_e h.1 hl (fun j hj => e j (by omega)), tw2_e h.2.1 (Nat.le_refl _) (fun j _ hj => e j (by omega)), tw3_e h.2.2.1 (Nat.le_refl _) hl h7 (e 7 (by omega)) (fun j _ hj => e j (by omega)), tw4_e h.2.2.2.1 (Nat.le_refl _) h8 (e 8 (by omega)) (fun j _ hj => e j hj), tw5_e h.2.2.2.2 (e 6 (by omega)) (fun j _ hj => e j (by omega))⟩
theorem plO_o {a j : Nat} (h : ¬ a = 44) (h' : ¬ a = 47) (h2 : ¬ a = 49) : plO M a j = M a j := by
  unfold plO
  rw [cp_u_at, if_neg (by omega), cp_u_at, if_neg (by omega), cp_u_at, if_neg (by omega)]
  unfold aT
  rw [if_neg (by omega)]
  unfold cpy
  rw [if_neg (by omega)]
theorem plO_44 {j : Nat} (h : ¬ (j = 14 ∨ j = 20 ∨ j = 21)) : plO M 44 j = M 44 j := by
  unfold plO
  rw [cp_u_at, if_neg (by omega), cp_u_at, if_neg (by omega), cp_u_at, if_neg (by omega)]
  unfold aT
  rw [if_neg (by omega)]
  unfold cpy
  rw [if_neg (by omega)]
theorem plO_v : plO M 44 14 = 1 ∧ plO M 44 20 = 0 ∧ plO M 44 21 = 0 := by
  unfold plO
  simp [cp_u_at]
theorem plO_47 {j : Nat} (h : j < 138) : plO M 47 j = M 48 j := by
  unfold plO
  rw [cp_u_at, if_neg (by omega), cp_u_at, if_neg (by omega), cp_u_at, if_neg (by omega)]
  unfold aT
  rw [if_neg (by omega)]
  unfold cpy
  rw [if_pos (by omega), show 0 + (j - 0) = j by omega]
theorem plO_49 {k : Nat} (h : k < 39) : plO M 49 k = if k < 36 then M 48 (22 + k) else 0 := by
  unfold plO
  rw [cp_u_at, if_neg (by omega), cp_u_at, if_neg (by omega), cp_u_at, if_neg (by omega)]
  unfold aT
  rw [if_pos ⟨rfl, h⟩]
  by_cases c : k < 36
  · rw [if_pos c, if_pos c]
    unfold cpy
    rw [if_pos (by omega), show 0 + (22 + k - 0) = 22 + k by omega]
  · rw [if_neg c, if_neg c]
theorem iv_new {F : Nat → Int32} {N0 : List (List Nat)} {p0 : Nat} (hw : wf0 (p0, F, N0)) (hx : tw F N0.length) (hpos : ¬ N0.length = 0) (hu : tk u) (ht : tk t) (htu : t ≠ u) (hFr : cFr F M u) (eF : ∀ j, j < 84 → N 47 j = F j) (eM : ∀ k, k ≤ 9 → ∀ j, N (u + k) j = M (u + k) j)
    (e14 : N 44 14 = 1) (e20 : N 44 20 = 0) (e21 : N 44 21 = 0) (e49 : ∀ k, k < 39 → N 49 k = if k < 36 then F (22 + k) else 0) (e55 : ∀ j, N 55 j = 0) (e15 : N 15 1 = 0 ∧ N 15 2 = 0 ∧ N 15 3 = 0) (hb : bOK N u N0.length 0) (e6 : ∃ p, p < 16 ∧ N 30 6 = nI p) (e7 : N 30 7 = 0) (e8 : N 30 8 = 0) (f1 : N 0 1 = 0) (f2 : N 44 2 = 0) (h3 : N 0 3 = N 44 9) : Iv0 N u t N0.length 0 0 := by
  obtain ⟨w1, w2, w3, w4, ⟨v7, w71, w72⟩, ⟨v8, w81, w82⟩, w6⟩ := hw
  have w1' : N0.length ≤ 6 := w1
  have w2' : F 4 = nI N0.length := w2
  have w72' : F 7 = nI v7 := w72
  have w82' : F 8 = nI v8 := w82
  have c4 : (F 4).toNatClampNeg ≤ 6 := by rw [w2', ncl (by omega)]; exact w1'
  have c7 : (F 7).toNatClampNeg ≤ 4 := by rw [w72', ncl (by omega)]; exact w71
  have c8 : (F 8).toNatClampNeg ≤ 4 := by rw [w82', ncl (by omega)]; exact w81
  have hc := cFr_f hFr eF eM c4 c7 c8
  obtain ⟨p, hp, e6⟩ := e6
  refine ⟨⟨hu, w1', ?_, ?_, tw_e hx w1' eF c7 c8, hc, ⟨v7, w71, ?_⟩, ⟨v8, w81, ?_⟩, Nat.two_pow_pos _, ?_, ?_, ?_, ?_, hb, e55⟩, ⟨p, 0, 0, hp, by omega, by omega, e6, e7, e20, e8, e21, fun j hj => absurd hj (Nat.not_lt_zero _), fun j hj => absurd hj (Nat.not_lt_zero _)⟩, ⟨0, fun _ => 0, by omega, f2, f1, fun k hk => absurd hk (Nat.not_lt_zero _)⟩, fun z => absurd z hpos, ⟨ht, fun z => htu z.symm⟩, h3⟩
  · rw [eF 4 (by omega)]; exact w2'
  · rw [e14, if_neg hpos]
  · rw [eF 7 (by omega)]; exact w72'
  · rw [eF 8 (by omega)]; exact w82'
  · intro i hi
    rw [Nat.zero_testBit] at hi
    cases hi
  · exact e15.1
  · exact e15.2.1
  · refine ⟨fun a b ha hb' => ?_, ?_, ?_, ?_⟩
    · rw [Nat.zero_add, e49 _ (by omega), if_pos (by omega)]
      unfold ctm
      rw [Nat.zero_testBit, hc.2.2.1 a b ha hb', eF _ (by omega), show 22 + (6 * a + b) = 22 + 6 * a + b by omega]
      simp
    · rw [e49 _ (by omega)]
      rfl
    · rw [e49 _ (by omega), show pc30 0 = 0 by decide +kernel]
      rfl
    · rw [e49 _ (by omega), e15.2.2]
      rfl
theorem pr_plunge {c : Int32} (h : Iv I t u) : PR g d m_CP_plunge m_Mod_plunge [.int c] I J t u r x := by
  obtain ⟨⟨n, s, m, h0⟩, g2, g4⟩ := id h
  have ht := h0.1.1
  obtain ⟨hu, htu⟩ := h0.2.2.2.2.1
  obtain ⟨τ, T, hτ, t2, t1, hT⟩ := h0.2.2.1
  have h55 := iv_55 h0.1
  obtain ⟨p0, q0, qi0, hp0, -, -, f6, -⟩ := h0.2.1
  have tu : ∀ k, k ≤ 9 → ¬ (u ≤ t + k ∧ t + k ≤ u + 9) ∧ ¬ t + k = 12 ∧ ¬ t + k = 13 ∧ ¬ t + k = 0 ∧ ¬ t + k = 15 ∧ ¬ (26 ≤ t + k) := fun k hk => by
    rcases ht with rfl | rfl <;> rcases hu with rfl | rfl <;> omega
  have uu : ∀ k, k ≤ 9 → ¬ u + k = 12 ∧ ¬ u + k = 13 ∧ ¬ u + k = 0 ∧ ¬ u + k = 15 ∧ ¬ (26 ≤ u + k) := fun k hk => by
    rcases hu with rfl | rfl <;> omega
  have ur : u + 9 < 26 := by rcases hu with rfl | rfl <;> omega
  have u1 : 1 < u := by rcases hu with rfl | rfl <;> omega
  have u15 : ¬ (u ≤ 15 ∧ 15 ≤ u + 9) := by rcases hu with rfl | rfl <;> omega
  unfold PR
  refine MW.of ok_CP_plunge (Nat.le_of_ble_eq_true rfl) ?_
  by_cases hc : ∃ k, k ≤ τ ∧ c = nI k
  · obtain ⟨k, hk, rfl⟩ := hc
    have c0 : ¬ nI k < 0 := nI_pos (by omega)
    have c1 : (nI k ≤ nI τ) = True := (leN (by omega) (by omega)).trans (eq_true hk)
    refine cp_run 60 (fun _ => false) ck_CP_plunge ?_
    simp only [cp_vc, cp_vs, cp_jm, cp_ent_en, cp_en_int, cp_en_ref, cp_en_ret, cp_en_long, cp_en_nil, cp_s1_at, cp_s2_at, cp_nl_int, cp_nl_ref, cp_nl_long, cp_nl_none, cp_pop_0, cp_pop_s, reduceIte, if_true, if_false, Bool.false_eq_true, Bool.true_eq_false, false_implies, implies_true, forall_const, true_implies, true_and, and_true, and_self, true_or, or_true, false_or, or_false, Value.category, List.length_cons, List.length_nil, Option.toList_some, Option.toList_none, List.cons_append, List.nil_append, List.append_nil, Prod.mk.injEq, Nat.add_zero, Nat.zero_add, Nat.reduceAdd, Nat.reduceSub, Nat.reduceEqDiff, Nat.reduceLeDiff, Nat.reduceLT, Nat.le_refl, beq_self_eq_true, Nat.reduceBEq, ne_eq, not_true_eq_false, not_false_eq_true, Int32.reduceAdd, Int32.reduceSub, Int32.reduceMul, Int32.reduceLE, Int32.reduceLT, Int32.reduceToNatClampNeg, b01_0, b01_1, ne_2_0, ne_3_0, ne_4_0, ne_5_0, ne_6_0, ne_m1_0, ne_m2_0, b01_01, b01_n, lt_m2, lt_m1, le_m2, le_m1, Classical.not_not, j_CP_plunge_0, b_CP_plunge_0, j_CP_plunge_12, b_CP_plunge_12, j_CP_plunge_18, b_CP_plunge_18, j_CP_plunge_67, b_CP_plunge_67, an_0, an_1, an_2, an_4, cl_0, cl_2, cl_4, ne_0_1, ne_0_2, ne_0_4, ne_1_0, ne_1_2, ne_1_4, ne_2_0, ne_2_1, ne_2_4, ne_4_0, ne_4_1, ne_4_2, pp_0_0, pp_0_5, pp_0_6, pp_0_7, pp_0_8, pp_15_0, sh_0, sh_1, sh_12, sh_15, sh_30, vi_0, vi_2, vi_4, c0, t1, c1]
    refine c_Read_text hu (T := T) (n := k) ⟨by omega, fun j hj => ?_⟩ ?_ ?_
    · rw [cp_u_at, if_neg (by omega)]
      exact ⟨(hT j (by omega)).2.2, (hT j (by omega)).2.1⟩
    · intro M' J' e he hE hJ
      have ne := eN_text e he
      have e6 := hE.2.2
      simp only [cp_kk, cp_vc, cp_vs, cp_jm, cp_ent_en, cp_en_int, cp_en_ref, cp_en_ret, cp_en_long, cp_en_nil, cp_s1_at, cp_s2_at, cp_nl_int, cp_nl_ref, cp_nl_long, cp_nl_none, cp_pop_0, cp_pop_s, reduceIte, if_true, if_false, Bool.false_eq_true, Bool.true_eq_false, false_implies, implies_true, forall_const, true_implies, true_and, and_true, and_self, true_or, or_true, false_or, or_false, Value.category, List.length_cons, List.length_nil, Option.toList_some, Option.toList_none, List.cons_append, List.nil_append, List.append_nil, Prod.mk.injEq, Nat.add_zero, Nat.zero_add, Nat.reduceAdd, Nat.reduceSub, Nat.reduceEqDiff, Nat.reduceLeDiff, Nat.reduceLT, Nat.le_refl, beq_self_eq_true, Nat.reduceBEq, ne_eq, not_true_eq_false, not_false_eq_true, Int32.reduceAdd, Int32.reduceSub, Int32.reduceMul, Int32.reduceLE, Int32.reduceLT, Int32.reduceToNatClampNeg, b01_0, b01_1, ne_2_0, ne_3_0, ne_4_0, ne_5_0, ne_6_0, ne_m1_0, ne_m2_0, b01_01, b01_n, lt_m2, lt_m1, le_m2, le_m1, Classical.not_not, Bool.or_false, Bool.false_or, Bool.true_or, Bool.or_true, j_CP_plunge_0, b_CP_plunge_0, j_CP_plunge_12, b_CP_plunge_12, j_CP_plunge_18, b_CP_plunge_18, j_CP_plunge_67, b_CP_plunge_67, an_0, an_1, an_2, an_4, cl_0, cl_2, cl_4, ne_0_1, ne_0_2, ne_0_4, ne_1_0, ne_1_2, ne_1_4, ne_2_0, ne_2_1, ne_2_4, ne_4_0, ne_4_1, ne_4_2, pp_0_0, pp_0_5, pp_0_6, pp_0_7, pp_0_8, pp_15_0, sh_0, sh_1, sh_12, sh_15, sh_30, vi_0, vi_2, vi_4, cp_u_at, ne, e6]
      refine c_CP_refuse ?_
      simp only [cp_kk, cp_vc, cp_vs, cp_jm, cp_ent_en, cp_en_int, cp_en_ref, cp_en_ret, cp_en_long, cp_en_nil, cp_s1_at, cp_s2_at, cp_nl_int, cp_nl_ref, cp_nl_long, cp_nl_none, cp_pop_0, cp_pop_s, reduceIte, if_true, if_false, Bool.false_eq_true, Bool.true_eq_false, false_implies, implies_true, forall_const, true_implies, true_and, and_true, and_self, true_or, or_true, false_or, or_false, Value.category, List.length_cons, List.length_nil, Option.toList_some, Option.toList_none, List.cons_append, List.nil_append, List.append_nil, Prod.mk.injEq, Nat.add_zero, Nat.zero_add, Nat.reduceAdd, Nat.reduceSub, Nat.reduceEqDiff, Nat.reduceLeDiff, Nat.reduceLT, Nat.le_refl, beq_self_eq_true, Nat.reduceBEq, ne_eq, not_true_eq_false, not_false_eq_true, Int32.reduceAdd, Int32.reduceSub, Int32.reduceMul, Int32.reduceLE, Int32.reduceLT, Int32.reduceToNatClampNeg, b01_0, b01_1, ne_2_0, ne_3_0, ne_4_0, ne_5_0, ne_6_0, ne_m1_0, ne_m2_0, b01_01, b01_n, lt_m2, lt_m1, le_m2, le_m1, Classical.not_not, Bool.or_false, Bool.false_or, Bool.true_or, Bool.or_true, j_CP_plunge_0, b_CP_plunge_0, j_CP_plunge_12, b_CP_plunge_12, j_CP_plunge_18, b_CP_plunge_18, j_CP_plunge_67, b_CP_plunge_67, an_0, an_1, an_2, an_4, cl_0, cl_2, cl_4, ne_0_1, ne_0_2, ne_0_4, ne_1_0, ne_1_2, ne_1_4, ne_2_0, ne_2_1, ne_2_4, ne_4_0, ne_4_1, ne_4_2, pp_0_0, pp_0_5, pp_0_6, pp_0_7, pp_0_8, pp_15_0, sh_0, sh_1, sh_12, sh_15, sh_30, vi_0, vi_2, vi_4]
      refine mid_i ?_
      have N1o : ∀ a j, ¬ a = 0 → ¬ a = 12 → ¬ a = 13 → ¬ (u ≤ a ∧ a ≤ u + 9) → rfu (cp_u (cp_u M' 0 3 e.1) 0 4 (nI e.2)) 4 a j = I a j := fun a j h1 h2 h3 h4 => by
        rw [rfu_o h1, cp_u_at, if_neg (by omega), cp_u_at, if_neg (by omega), hE.1 a j (by omega) h3 h4, cp_u_at, if_neg (by omega)]
      have N10 : rfu (cp_u (cp_u M' 0 3 e.1) 0 4 (nI e.2)) 4 0 1 = 0 ∧ rfu (cp_u (cp_u M' 0 3 e.1) 0 4 (nI e.2)) 4 0 2 = 4 ∧ rfu (cp_u (cp_u M' 0 3 e.1) 0 4 (nI e.2)) 4 0 3 = e.1 ∧ rfu (cp_u (cp_u M' 0 3 e.1) 0 4 (nI e.2)) 4 0 4 = nI e.2 := by
        refine ⟨?_, rfu_2, ?_, ?_⟩
        · rw [rfu_j (by omega), cp_u_at, if_neg (by omega), cp_u_at, if_neg (by omega), hE.1 0 1 (by omega) (by omega) (by omega), cp_u_at, if_pos ⟨rfl, rfl⟩]
        · rw [rfu_j (by omega), cp_u_at, if_neg (by omega), cp_u_at, if_pos ⟨rfl, rfl⟩]
        · rw [rfu_j (by omega), cp_u_at, if_pos ⟨rfl, rfl⟩]
      generalize rfu (cp_u (cp_u M' 0 3 e.1) 0 4 (nI e.2)) 4 = N1 at *
      refine c_Mod_plunge hτ (by rw [N1o 44 2 (by omega) (by omega) (by omega) (by omega)]; exact t2) (fun j hj => by rw [N1o 45 j (by omega) (by omega) (by omega) (by omega)]; exact ⟨(hT j hj).1, (hT j hj).2.1⟩) ?_ ?_ ?_
      · intro z
        exact absurd ⟨k, hk, rfl⟩ z
      · intro k' M e' hk' ek he' hM m9 m10
        have e1 : k = k' := (nI_eq (by omega) (by omega)).1 ek
        subst e1
        rw [he] at he'
        cases he'
        refine fin_i rfl ?_
        obtain ⟨p1, p2, p3, p4, p5⟩ := hM
        have No : ∀ a j, ¬ a = 44 → ¬ a = 46 → ¬ a = 48 → cp_u M 44 11 4 a j = N1 a j := fun a j h1 h2 h3 => by
          rw [cp_u_at, if_neg (by omega)]
          exact p1 a j (by omega)
        have N44 : ∀ j, 12 ≤ j → ¬ j = 13 → cp_u M 44 11 4 44 j = I 44 j := fun j h1 h2 => by
          rw [cp_u_at, if_neg (by omega), p2 j h1 h2, N1o 44 j (by omega) (by omega) (by omega) (by omega)]
        have hN0 : Iv0 (cp_u M 44 11 4) t u n s m := by
          refine iv_fx h0 (fun k hk j => ?_) (fun a j ha => ?_) (N44 14 (by omega) (by omega)) (N44 20 (by omega) (by omega)) (N44 21 (by omega) (by omega)) ⟨0, fun _ => 0, by omega, ?_, ?_, fun k hk => absurd hk (Nat.not_lt_zero _)⟩ ?_
          · have := tu k hk
            have hw := wa_ne (wa_t ht hk)
            rw [No _ j (by omega) (by omega) (by omega), N1o _ j (by omega) (by omega) (by omega) (by omega)]
          · rw [No a j (by omega) (by omega) (by omega), N1o a j (by omega) (by omega) (by omega) (by omega)]
          · rw [cp_u_at, if_neg (by omega)]
            exact p4
          · rw [No 0 1 (by omega) (by omega) (by omega)]
            exact N10.1
          · rw [No 0 3 (by omega) (by omega) (by omega), N10.2.2.1, cp_u_at, if_neg (by omega), m9]
        refine ⟨⟨n, s, m, hN0⟩, ?_, fun _ => ?_⟩
        · rw [No 0 2 (by omega) (by omega) (by omega), N10.2.1, cp_u_at, if_pos ⟨rfl, rfl⟩]
        · rw [No 0 4 (by omega) (by omega) (by omega), N10.2.2.2, cp_u_at, if_neg (by omega), m10]
      · intro k' M s' hk' ek hs'
        have e1 : k = k' := (nI_eq (by omega) (by omega)).1 ek
        subst e1
        rw [he] at hs'
        cases hs'
    · intro M' J' s' hs' hw hz hO hJ
      have hx := p_text_tw hs'
      have hpos := p_text_pos hs'
      obtain ⟨o1, o2, o3, o4, o5, o6, o7⟩ := hO
      have w1 : s'.2.2.length ≤ 6 := hw.1
      have w2 : s'.2.1 4 = nI s'.2.2.length := hw.2.1
      have cn4 : (s'.2.1 4).toNatClampNeg = s'.2.2.length := by rw [w2]; exact ncl (by omega)
      have cM : cT (cp_u (cp_u M' 0 3 0) 15 2 0) u s'.2.2.length := by
        refine ⟨hu, w1, ?_, fun b hb => ?_⟩
        · rw [cp_u_at, if_neg (by have := uu 0 (by omega); omega), cp_u_at, if_neg (by omega), o5.1.2.2.2.2.1]
          exact w2
        · rw [cp_u_at, if_neg (by have := uu 3 (by omega); omega), cp_u_at, if_neg (by omega), (o5.2.1 b (by rw [cn4]; exact hb)).2]
          exact hx.1.2.2.2.2 b hb
      simp only [cp_kk, cp_vc, cp_vs, cp_jm, cp_ent_en, cp_en_int, cp_en_ref, cp_en_ret, cp_en_long, cp_en_nil, cp_s1_at, cp_s2_at, cp_nl_int, cp_nl_ref, cp_nl_long, cp_nl_none, cp_pop_0, cp_pop_s, reduceIte, if_true, if_false, Bool.false_eq_true, Bool.true_eq_false, false_implies, implies_true, forall_const, true_implies, true_and, and_true, and_self, true_or, or_true, false_or, or_false, Value.category, List.length_cons, List.length_nil, Option.toList_some, Option.toList_none, List.cons_append, List.nil_append, List.append_nil, Prod.mk.injEq, Nat.add_zero, Nat.zero_add, Nat.reduceAdd, Nat.reduceSub, Nat.reduceEqDiff, Nat.reduceLeDiff, Nat.reduceLT, Nat.le_refl, beq_self_eq_true, Nat.reduceBEq, ne_eq, not_true_eq_false, not_false_eq_true, Int32.reduceAdd, Int32.reduceSub, Int32.reduceMul, Int32.reduceLE, Int32.reduceLT, Int32.reduceToNatClampNeg, b01_0, b01_1, ne_2_0, ne_3_0, ne_4_0, ne_5_0, ne_6_0, ne_m1_0, ne_m2_0, b01_01, b01_n, lt_m2, lt_m1, le_m2, le_m1, Classical.not_not, Bool.or_false, Bool.false_or, Bool.true_or, Bool.or_true, j_CP_plunge_0, b_CP_plunge_0, j_CP_plunge_12, b_CP_plunge_12, j_CP_plunge_18, b_CP_plunge_18, j_CP_plunge_67, b_CP_plunge_67, an_0, an_1, an_2, an_4, cl_0, cl_2, cl_4, ne_0_1, ne_0_2, ne_0_4, ne_1_0, ne_1_2, ne_1_4, ne_2_0, ne_2_1, ne_2_4, ne_4_0, ne_4_1, ne_4_2, pp_0_0, pp_0_5, pp_0_6, pp_0_7, pp_0_8, pp_15_0, sh_0, sh_1, sh_12, sh_15, sh_30, vi_0, vi_2, vi_4, cp_u_at, pp_15_0]
      refine c_Bath_begin (c := u) (n := s'.2.2.length) cM ?_
      intro M hM m1 m2 m3 mB
      simp only [cp_kk, cp_vc, cp_vs, cp_jm, cp_ent_en, cp_en_int, cp_en_ref, cp_en_ret, cp_en_long, cp_en_nil, cp_s1_at, cp_s2_at, cp_nl_int, cp_nl_ref, cp_nl_long, cp_nl_none, cp_pop_0, cp_pop_s, reduceIte, if_true, if_false, Bool.false_eq_true, Bool.true_eq_false, false_implies, implies_true, forall_const, true_implies, true_and, and_true, and_self, true_or, or_true, false_or, or_false, Value.category, List.length_cons, List.length_nil, Option.toList_some, Option.toList_none, List.cons_append, List.nil_append, List.append_nil, Prod.mk.injEq, Nat.add_zero, Nat.zero_add, Nat.reduceAdd, Nat.reduceSub, Nat.reduceEqDiff, Nat.reduceLeDiff, Nat.reduceLT, Nat.le_refl, beq_self_eq_true, Nat.reduceBEq, ne_eq, not_true_eq_false, not_false_eq_true, Int32.reduceAdd, Int32.reduceSub, Int32.reduceMul, Int32.reduceLE, Int32.reduceLT, Int32.reduceToNatClampNeg, b01_0, b01_1, ne_2_0, ne_3_0, ne_4_0, ne_5_0, ne_6_0, ne_m1_0, ne_m2_0, b01_01, b01_n, lt_m2, lt_m1, le_m2, le_m1, Classical.not_not, Bool.or_false, Bool.false_or, Bool.true_or, Bool.or_true, j_CP_plunge_0, b_CP_plunge_0, j_CP_plunge_12, b_CP_plunge_12, j_CP_plunge_18, b_CP_plunge_18, j_CP_plunge_67, b_CP_plunge_67, an_0, an_1, an_2, an_4, cl_0, cl_2, cl_4, ne_0_1, ne_0_2, ne_0_4, ne_1_0, ne_1_2, ne_1_4, ne_2_0, ne_2_1, ne_2_4, ne_4_0, ne_4_1, ne_4_2, pp_0_0, pp_0_5, pp_0_6, pp_0_7, pp_0_8, pp_15_0, sh_0, sh_1, sh_12, sh_15, sh_30, vi_0, vi_2, vi_4, pu_u]
      refine c_Hist_forget ?_
      have Mu : M u 4 = nI s'.2.2.length := by
        have := uu 0 (by omega)
        rw [hM u 4 (by omega) (by omega), cp_u_at, if_neg (by omega), o5.1.2.2.2.2.1]
        exact w2
      have Mu' : cp_u (cp_u (cp_u M 30 7 0) 30 8 0) 0 2 0 u 4 = nI s'.2.2.length := by
        have := uu 0 (by omega)
        rw [cp_u_at, if_neg (by omega), cp_u_at, if_neg (by omega), cp_u_at, if_neg (by omega)]
        exact Mu
      simp only [cp_kk, cp_vc, cp_vs, cp_jm, cp_ent_en, cp_en_int, cp_en_ref, cp_en_ret, cp_en_long, cp_en_nil, cp_s1_at, cp_s2_at, cp_nl_int, cp_nl_ref, cp_nl_long, cp_nl_none, cp_pop_0, cp_pop_s, reduceIte, if_true, if_false, Bool.false_eq_true, Bool.true_eq_false, false_implies, implies_true, forall_const, true_implies, true_and, and_true, and_self, true_or, or_true, false_or, or_false, Value.category, List.length_cons, List.length_nil, Option.toList_some, Option.toList_none, List.cons_append, List.nil_append, List.append_nil, Prod.mk.injEq, Nat.add_zero, Nat.zero_add, Nat.reduceAdd, Nat.reduceSub, Nat.reduceEqDiff, Nat.reduceLeDiff, Nat.reduceLT, Nat.le_refl, beq_self_eq_true, Nat.reduceBEq, ne_eq, not_true_eq_false, not_false_eq_true, Int32.reduceAdd, Int32.reduceSub, Int32.reduceMul, Int32.reduceLE, Int32.reduceLT, Int32.reduceToNatClampNeg, b01_0, b01_1, ne_2_0, ne_3_0, ne_4_0, ne_5_0, ne_6_0, ne_m1_0, ne_m2_0, b01_01, b01_n, lt_m2, lt_m1, le_m2, le_m1, Classical.not_not, Bool.or_false, Bool.false_or, Bool.true_or, Bool.or_true, j_CP_plunge_0, b_CP_plunge_0, j_CP_plunge_12, b_CP_plunge_12, j_CP_plunge_18, b_CP_plunge_18, j_CP_plunge_67, b_CP_plunge_67, an_0, an_1, an_2, an_4, cl_0, cl_2, cl_4, ne_0_1, ne_0_2, ne_0_4, ne_1_0, ne_1_2, ne_1_4, ne_2_0, ne_2_1, ne_2_4, ne_4_0, ne_4_1, ne_4_2, pp_0_0, pp_0_5, pp_0_6, pp_0_7, pp_0_8, pp_15_0, sh_0, sh_1, sh_12, sh_15, sh_30, vi_0, vi_2, vi_4, pp_15_0, sT0 hu, sT1 hu, sT2 hu, sT3 hu, sT4 hu, sT5 hu, sT6 hu, sT7 hu, sT8 hu, sT9 hu, pT1 hu, pT2 hu, pT3 hu, pT4 hu, pT5 hu, pT6 hu, pT7 hu, pT8 hu, pT9 hu, Mu']
      refine mid_i ?_
      have N1o : ∀ a j, ¬ a = 0 → ¬ a = 12 → ¬ a = 13 → ¬ a = 15 → ¬ (26 ≤ a ∧ a ≤ 29) → ¬ (a = 30 ∧ (j = 7 ∨ j = 8)) → ¬ (u ≤ a ∧ a ≤ u + 9) → cp_u (cp_u (cp_u M 30 7 0) 30 8 0) 0 2 0 a j = I a j := fun a j h1 h2 h3 h4 h5 h6 h7 => by
        rw [cp_u_at, if_neg (by omega), cp_u_at, if_neg (by omega), cp_u_at, if_neg (by omega), hM a j (by omega) (by omega), cp_u_at, if_neg (by omega), o1 a j (by omega) h3 h7, cp_u_at, if_neg (by omega)]
      have N1M : ∀ a j, ¬ a = 0 → ¬ (a = 30 ∧ (j = 7 ∨ j = 8)) → cp_u (cp_u (cp_u M 30 7 0) 30 8 0) 0 2 0 a j = M a j := fun a j h1 h6 => by
        rw [cp_u_at, if_neg (by omega), cp_u_at, if_neg (by omega), cp_u_at, if_neg (by omega)]
      have N10 : cp_u (cp_u (cp_u M 30 7 0) 30 8 0) 0 2 0 0 1 = 0 ∧ cp_u (cp_u (cp_u M 30 7 0) 30 8 0) 0 2 0 0 2 = 0 ∧ cp_u (cp_u (cp_u M 30 7 0) 30 8 0) 0 2 0 0 3 = 0 := by
        refine ⟨?_, ?_, ?_⟩
        · rw [cp_u_at, if_neg (by omega), cp_u_at, if_neg (by omega), cp_u_at, if_neg (by omega), hM 0 1 (by omega) (by omega), cp_u_at, if_neg (by omega), o1 0 1 (by omega) (by omega) (by omega), cp_u_at, if_pos ⟨rfl, rfl⟩]
        · rw [cp_u_at, if_pos ⟨rfl, rfl⟩]
        · rw [cp_u_at, if_neg (by omega), cp_u_at, if_neg (by omega), cp_u_at, if_neg (by omega), hM 0 3 (by omega) (by omega), cp_u_at, if_pos ⟨rfl, rfl⟩]
      have N130 : cp_u (cp_u (cp_u M 30 7 0) 30 8 0) 0 2 0 30 7 = 0 ∧ cp_u (cp_u (cp_u M 30 7 0) 30 8 0) 0 2 0 30 8 = 0 := by
        refine ⟨?_, ?_⟩
        · rw [cp_u_at, if_neg (by omega), cp_u_at, if_neg (by omega), cp_u_at, if_pos ⟨rfl, rfl⟩]
        · rw [cp_u_at, if_neg (by omega), cp_u_at, if_pos ⟨rfl, rfl⟩]
      generalize cp_u (cp_u (cp_u M 30 7 0) 30 8 0) 0 2 0 = N1 at *
      refine c_Mod_plunge hτ (by rw [N1o 44 2 (by omega) (by omega) (by omega) (by omega) (by omega) (by omega) (by omega)]; exact t2) (fun j hj => by rw [N1o 45 j (by omega) (by omega) (by omega) (by omega) (by omega) (by omega) (by omega)]; exact ⟨(hT j hj).1, (hT j hj).2.1⟩) ?_ ?_ ?_
      · intro z
        exact absurd ⟨k, hk, rfl⟩ z
      · intro k' M2 e' hk' ek he'
        have e1 : k = k' := (nI_eq (by omega) (by omega)).1 ek
        subst e1
        rw [hs'] at he'
        cases he'
      · intro k' M2 s2 hk' ek hs2 hw2 hK m9 hR
        have e1 : k = k' := (nI_eq (by omega) (by omega)).1 ek
        subst e1
        rw [hs'] at hs2
        cases hs2
        obtain ⟨p1, p2, p3, p4, p5⟩ := hK
        have No : ∀ a j, ¬ a = 44 → ¬ a = 46 → ¬ a = 47 → ¬ a = 48 → ¬ a = 49 → plO M2 a j = N1 a j := fun a j h1 h2 h3 h4 h5 => by
          rw [plO_o h1 h3 h5]
          exact p1 a j (by omega)
        have eM : ∀ k, k ≤ 9 → ∀ j, plO M2 (u + k) j = M' (u + k) j := fun k hk j => by
          have := uu k hk
          rw [No _ j (by omega) (by omega) (by omega) (by omega) (by omega), N1M _ j (by omega) (by omega), hM _ j (by omega) (by omega), cp_u_at, if_neg (by omega)]
        have hb : bOK (plO M2) u s'.2.2.length 0 := bOK_o mB (fun k j hk => by
          have := uu k hk
          rw [No _ j (by omega) (by omega) (by omega) (by omega) (by omega), N1M _ j (by omega) (by omega)]) (fun a j h1 h2 => by
          rw [No a j (by omega) (by omega) (by omega) (by omega) (by omega), N1M a j (by omega) (by omega)])
        have hN0 : Iv0 (plO M2) u t s'.2.2.length 0 0 := by
          refine iv_new (p0 := s'.1) (N0 := s'.2.2) (F := s'.2.1) (M := M') hw hx hpos hu ht htu o5 (fun j hj => ?_) eM plO_v.1 plO_v.2.1 plO_v.2.2 (fun k hk => ?_) (fun j => ?_) ⟨?_, ?_, ?_⟩ hb ⟨p0, hp0, ?_⟩ ?_ ?_ ?_ ?_ ?_
          · rw [plO_47 (by omega)]
            exact hR.1 j hj
          · rw [plO_49 hk]
            by_cases c : k < 36
            · rw [if_pos c, if_pos c]
              exact hR.1 _ (by omega)
            · rw [if_neg c, if_neg c]
          · rw [No 55 j (by omega) (by omega) (by omega) (by omega) (by omega), N1o 55 j (by omega) (by omega) (by omega) (by omega) (by omega) (by omega) (by omega)]
            exact h55 j
          · rw [No 15 1 (by omega) (by omega) (by omega) (by omega) (by omega), N1M 15 1 (by omega) (by omega)]
            exact m1
          · rw [No 15 2 (by omega) (by omega) (by omega) (by omega) (by omega), N1M 15 2 (by omega) (by omega)]
            exact m2
          · rw [No 15 3 (by omega) (by omega) (by omega) (by omega) (by omega), N1M 15 3 (by omega) (by omega)]
            exact m3
          · rw [No 30 6 (by omega) (by omega) (by omega) (by omega) (by omega), N1o 30 6 (by omega) (by omega) (by omega) (by omega) (by omega) (by omega) (by omega)]
            exact f6
          · rw [No 30 7 (by omega) (by omega) (by omega) (by omega) (by omega)]
            exact N130.1
          · rw [No 30 8 (by omega) (by omega) (by omega) (by omega) (by omega)]
            exact N130.2
          · rw [No 0 1 (by omega) (by omega) (by omega) (by omega) (by omega)]
            exact N10.1
          · rw [plO_44 (by omega)]
            exact p4
          · rw [No 0 3 (by omega) (by omega) (by omega) (by omega) (by omega), N10.2.2, plO_44 (by omega), m9]
        refine fin_i rfl (iv_of ⟨hN0, ?_, ?_⟩)
        · rw [No 0 2 (by omega) (by omega) (by omega) (by omega) (by omega)]
          exact N10.2.1
        · rw [plO_44 (by omega)]
          exact p5
  · have hno : c < 0 ∨ ¬ c ≤ nI τ := by
      by_cases z : c < 0
      · exact Or.inl z
      · right
        intro z2
        obtain ⟨k, hk, rfl⟩ := nI_of z
        exact hc ⟨k, (nI_leI hk (by omega)).1 z2, rfl⟩
    have fin : QA g d m_Mod_plunge [.int c] (some (.int (-1))) SH (rfu I 2) J (PP t u r x) := by
      refine mid_i ?_
      refine c_Mod_plunge hτ (by rw [rfu_o (by omega)]; exact t2) (fun j hj => by rw [rfu_o (by omega)]; exact ⟨(hT j hj).1, (hT j hj).2.1⟩) ?_ ?_ ?_
      · intro _
        exact fin_i rfl (iv_rn h0 n24)
      · intro k M e hk ek
        exact absurd ⟨k, hk, ek⟩ hc
      · intro k M s' hk ek
        exact absurd ⟨k, hk, ek⟩ hc
    by_cases z : c < 0
    · refine cp_run 60 (fun _ => false) ck_CP_plunge ?_
      simp only [cp_vc, cp_vs, cp_jm, cp_ent_en, cp_en_int, cp_en_ref, cp_en_ret, cp_en_long, cp_en_nil, cp_s1_at, cp_s2_at, cp_nl_int, cp_nl_ref, cp_nl_long, cp_nl_none, cp_pop_0, cp_pop_s, reduceIte, if_true, if_false, Bool.false_eq_true, Bool.true_eq_false, false_implies, implies_true, forall_const, true_implies, true_and, and_true, and_self, true_or, or_true, false_or, or_false, Value.category, List.length_cons, List.length_nil, Option.toList_some, Option.toList_none, List.cons_append, List.nil_append, List.append_nil, Prod.mk.injEq, Nat.add_zero, Nat.zero_add, Nat.reduceAdd, Nat.reduceSub, Nat.reduceEqDiff, Nat.reduceLeDiff, Nat.reduceLT, Nat.le_refl, beq_self_eq_true, Nat.reduceBEq, ne_eq, not_true_eq_false, not_false_eq_true, Int32.reduceAdd, Int32.reduceSub, Int32.reduceMul, Int32.reduceLE, Int32.reduceLT, Int32.reduceToNatClampNeg, b01_0, b01_1, ne_2_0, ne_3_0, ne_4_0, ne_5_0, ne_6_0, ne_m1_0, ne_m2_0, b01_01, b01_n, lt_m2, lt_m1, le_m2, le_m1, Classical.not_not, j_CP_plunge_0, b_CP_plunge_0, j_CP_plunge_12, b_CP_plunge_12, j_CP_plunge_18, b_CP_plunge_18, j_CP_plunge_67, b_CP_plunge_67, an_0, an_1, an_2, an_4, cl_0, cl_2, cl_4, ne_0_1, ne_0_2, ne_0_4, ne_1_0, ne_1_2, ne_1_4, ne_2_0, ne_2_1, ne_2_4, ne_4_0, ne_4_1, ne_4_2, pp_0_0, pp_0_5, pp_0_6, pp_0_7, pp_0_8, pp_15_0, sh_0, sh_1, sh_12, sh_15, sh_30, vi_0, vi_2, vi_4, z]
      refine c_CP_refuse ?_
      simp only [cp_kk, cp_vc, cp_vs, cp_jm, cp_ent_en, cp_en_int, cp_en_ref, cp_en_ret, cp_en_long, cp_en_nil, cp_s1_at, cp_s2_at, cp_nl_int, cp_nl_ref, cp_nl_long, cp_nl_none, cp_pop_0, cp_pop_s, reduceIte, if_true, if_false, Bool.false_eq_true, Bool.true_eq_false, false_implies, implies_true, forall_const, true_implies, true_and, and_true, and_self, true_or, or_true, false_or, or_false, Value.category, List.length_cons, List.length_nil, Option.toList_some, Option.toList_none, List.cons_append, List.nil_append, List.append_nil, Prod.mk.injEq, Nat.add_zero, Nat.zero_add, Nat.reduceAdd, Nat.reduceSub, Nat.reduceEqDiff, Nat.reduceLeDiff, Nat.reduceLT, Nat.le_refl, beq_self_eq_true, Nat.reduceBEq, ne_eq, not_true_eq_false, not_false_eq_true, Int32.reduceAdd, Int32.reduceSub, Int32.reduceMul, Int32.reduceLE, Int32.reduceLT, Int32.reduceToNatClampNeg, b01_0, b01_1, ne_2_0, ne_3_0, ne_4_0, ne_5_0, ne_6_0, ne_m1_0, ne_m2_0, b01_01, b01_n, lt_m2, lt_m1, le_m2, le_m1, Classical.not_not, Bool.or_false, Bool.false_or, Bool.true_or, Bool.or_true, j_CP_plunge_0, b_CP_plunge_0, j_CP_plunge_12, b_CP_plunge_12, j_CP_plunge_18, b_CP_plunge_18, j_CP_plunge_67, b_CP_plunge_67, an_0, an_1, an_2, an_4, cl_0, cl_2, cl_4, ne_0_1, ne_0_2, ne_0_4, ne_1_0, ne_1_2, ne_1_4, ne_2_0, ne_2_1, ne_2_4, ne_4_0, ne_4_1, ne_4_2, pp_0_0, pp_0_5, pp_0_6, pp_0_7, pp_0_8, pp_15_0, sh_0, sh_1, sh_12, sh_15, sh_30, vi_0, vi_2, vi_4]
      exact fin
    · have z2 : ¬ c ≤ nI τ := by
        rcases hno with q | q
        · exact absurd q z
        · exact q
      refine cp_run 60 (fun _ => false) ck_CP_plunge ?_
      simp only [cp_vc, cp_vs, cp_jm, cp_ent_en, cp_en_int, cp_en_ref, cp_en_ret, cp_en_long, cp_en_nil, cp_s1_at, cp_s2_at, cp_nl_int, cp_nl_ref, cp_nl_long, cp_nl_none, cp_pop_0, cp_pop_s, reduceIte, if_true, if_false, Bool.false_eq_true, Bool.true_eq_false, false_implies, implies_true, forall_const, true_implies, true_and, and_true, and_self, true_or, or_true, false_or, or_false, Value.category, List.length_cons, List.length_nil, Option.toList_some, Option.toList_none, List.cons_append, List.nil_append, List.append_nil, Prod.mk.injEq, Nat.add_zero, Nat.zero_add, Nat.reduceAdd, Nat.reduceSub, Nat.reduceEqDiff, Nat.reduceLeDiff, Nat.reduceLT, Nat.le_refl, beq_self_eq_true, Nat.reduceBEq, ne_eq, not_true_eq_false, not_false_eq_true, Int32.reduceAdd, Int32.reduceSub, Int32.reduceMul, Int32.reduceLE, Int32.reduceLT, Int32.reduceToNatClampNeg, b01_0, b01_1, ne_2_0, ne_3_0, ne_4_0, ne_5_0, ne_6_0, ne_m1_0, ne_m2_0, b01_01, b01_n, lt_m2, lt_m1, le_m2, le_m1, Classical.not_not, j_CP_plunge_0, b_CP_plunge_0, j_CP_plunge_12, b_CP_plunge_12, j_CP_plunge_18, b_CP_plunge_18, j_CP_plunge_67, b_CP_plunge_67, an_0, an_1, an_2, an_4, cl_0, cl_2, cl_4, ne_0_1, ne_0_2, ne_0_4, ne_1_0, ne_1_2, ne_1_4, ne_2_0, ne_2_1, ne_2_4, ne_4_0, ne_4_1, ne_4_2, pp_0_0, pp_0_5, pp_0_6, pp_0_7, pp_0_8, pp_15_0, sh_0, sh_1, sh_12, sh_15, sh_30, vi_0, vi_2, vi_4, z, t1, z2]
      refine c_CP_refuse ?_
      simp only [cp_kk, cp_vc, cp_vs, cp_jm, cp_ent_en, cp_en_int, cp_en_ref, cp_en_ret, cp_en_long, cp_en_nil, cp_s1_at, cp_s2_at, cp_nl_int, cp_nl_ref, cp_nl_long, cp_nl_none, cp_pop_0, cp_pop_s, reduceIte, if_true, if_false, Bool.false_eq_true, Bool.true_eq_false, false_implies, implies_true, forall_const, true_implies, true_and, and_true, and_self, true_or, or_true, false_or, or_false, Value.category, List.length_cons, List.length_nil, Option.toList_some, Option.toList_none, List.cons_append, List.nil_append, List.append_nil, Prod.mk.injEq, Nat.add_zero, Nat.zero_add, Nat.reduceAdd, Nat.reduceSub, Nat.reduceEqDiff, Nat.reduceLeDiff, Nat.reduceLT, Nat.le_refl, beq_self_eq_true, Nat.reduceBEq, ne_eq, not_true_eq_false, not_false_eq_true, Int32.reduceAdd, Int32.reduceSub, Int32.reduceMul, Int32.reduceLE, Int32.reduceLT, Int32.reduceToNatClampNeg, b01_0, b01_1, ne_2_0, ne_3_0, ne_4_0, ne_5_0, ne_6_0, ne_m1_0, ne_m2_0, b01_01, b01_n, lt_m2, lt_m1, le_m2, le_m1, Classical.not_not, Bool.or_false, Bool.false_or, Bool.true_or, Bool.or_true, j_CP_plunge_0, b_CP_plunge_0, j_CP_plunge_12, b_CP_plunge_12, j_CP_plunge_18, b_CP_plunge_18, j_CP_plunge_67, b_CP_plunge_67, an_0, an_1, an_2, an_4, cl_0, cl_2, cl_4, ne_0_1, ne_0_2, ne_0_4, ne_1_0, ne_1_2, ne_1_4, ne_2_0, ne_2_1, ne_2_4, ne_4_0, ne_4_1, ne_4_2, pp_0_0, pp_0_5, pp_0_6, pp_0_7, pp_0_8, pp_15_0, sh_0, sh_1, sh_12, sh_15, sh_30, vi_0, vi_2, vi_4]
      exact fin
end Plg
