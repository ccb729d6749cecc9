section Mod17
variable {g : cp_G} {d : Nat} {sh : cp_H} {I : cp_I} {J : cp_J} {P : cp_P} {Q : cp_QT} {t u r x : Nat}
/-! the reference's words by two memories that agree on its rows -/
theorem rn_c {M : cp_I} (h : ∀ j, M 47 j = I 47 j) : rn M = rn I := by funext b; unfold rn; rw [h, h]
theorem rt_c {M : cp_I} {ρ : Nat} (h : ∀ j, M ρ j = I ρ j) : rt M ρ = rt I ρ := by funext a b; exact h _
theorem rw_c {M : cp_I} (h : ∀ j, M 47 j = I 47 j) (h9 : ∀ j, M 49 j = I 49 j) (n : Nat) : rw_ M n 49 = rw_ I n 49 := by funext s; unfold rw_; rw [h, h, rt_c h9]
theorem rb_c {M : cp_I} (h : ∀ j, M 47 j = I 47 j) (h9 : ∀ j, M 49 j = I 49 j) (n : Nat) : rb M n 49 = rb I n 49 := by funext s; unfold rb; rw [rw_c h h9, rn_c h]
theorem rs_c {M : cp_I} (h : ∀ j, M 47 j = I 47 j) (h9 : ∀ j, M 49 j = I 49 j) (n : Nat) : rs M n 49 = rs I n 49 := by funext s; unfold rs; rw [rb_c h h9]
theorem rd_c {M : cp_I} (h : ∀ j, M 47 j = I 47 j) (h9 : ∀ j, M 49 j = I 49 j) (n b : Nat) : rd M n b = rd I n b := by funext s; unfold rd; rw [rw_c h h9, rn_c h]
theorem rk_c {M : cp_I} {ρ : Nat} (h : ∀ j, M ρ j = I ρ j) (n : Nat) : rk M n ρ = rk I n ρ := by funext i; unfold rk; rw [rt_c h]
/-- a memory with another row in a cell -/
def od (I : cp_I) (c : Nat) (O : Nat → Int32) : cp_I := fun a j => if a = c then O j else I a j
theorem od_self (I : cp_I) (c : Nat) : od I c (I c) = I := by
  funext a j
  by_cases h : a = c
  · subst h
    simp [od]
  · simp [od, h]
theorem od_o (I : cp_I) (c : Nat) (O : Nat → Int32) {a : Nat} (h : a ≠ c) (j : Nat) : od I c O a j = I a j := by simp [od, h]
theorem od_c (I : cp_I) (c : Nat) (O : Nat → Int32) (j : Nat) : od I c O c j = O j := by simp [od]
theorem od_u (I : cp_I) (c : Nat) (O : Nat → Int32) (k : Nat) (v : Int32) : cp_u (od I c O) c k v = od I c (upd O k v) := by
  funext a j
  unfold cp_u od upd
  by_cases h : a = c
  · by_cases h2 : j = k <;> simp [h, h2]
  · simp [h]
/-- a loop that ends with the first that will do -/
def lo {σ : Type} (f : Nat → σ → Bool × σ) : Nat → Nat → σ → Bool × σ
  | 0, _, a => (false, a)
  | m + 1, k, a => if (f k a).1 = true then f k a else lo f m (k + 1) (f k a).2
/-- an order to come in -/
def sp_or (S : Nat → Bool) (n set : Nat) : Nat → Nat → Nat → (Nat → Int32) → Bool × (Nat → Int32)
  | 0, come, _, O => (decide (come = set), O)
  | f + 1, come, k, O => if come = set then (true, O) else lo (fun b O => if ((set &&& (63 - come)).testBit b && S (come ||| 2 ^ b)) = true then sp_or S n set f (come ||| 2 ^ b) (k + 1) (upd O k (nI b)) else (false, O)) n 0 O
theorem card_or {come set b : Nat} (hc : come < 64) (hs : set < 64) (hb : b < 6) (hsub : come &&& set = come) (ht : (set &&& (63 - come)).testBit b = true) : card (come ||| 2 ^ b) = card come + 1 ∧ (come ||| 2 ^ b) &&& set = come ||| 2 ^ b := by
  have key : ∀ come : Nat, come < 64 → ∀ b : Nat, b < 6 → ∀ set : Nat, set < 64 → (!(decide (come &&& set = come) && (set &&& (63 - come)).testBit b) || (decide (card (come ||| 2 ^ b) = card come + 1) && decide ((come ||| 2 ^ b) &&& set = come ||| 2 ^ b))) = true := by decide +kernel
  have := key come hc b hb set hs
  simpa [hsub, ht] using this
set_option maxRecDepth 20000 in
theorem c_Mod_tryOrder {n set : Nat} (hn6 : n ≤ 6) (hn : I 47 4 = nI n) (hset : set < 64) : ∀ (f D come k : Nat) (O : Nat → Int32) (Q : cp_QT), D = d + f → come < 64 → come &&& set = come → k = card come → card set ≤ card come + f →
    Q (some (.int (if (sp_or (rs I n 49) n set f come k O).1 = true then 1 else 0))) SH (od I 52 (sp_or (rs I n 49) n set f come k O).2) J (PP t u r x) →
    MW g false (D + 6) 0 0 m_Mod_tryOrder [.ref 44, .int (nI set), .int (nI come), .int (nI k)] SH (od I 52 O) J (PP t u r x) Q := by
  intro f
  induction f with
  | zero =>
    intro D come k O Q hD hc hsub hk hcard h
    have he : come = set := by
      rcases Nat.decEq come set with z | z
      · have := card_lt hc hset hsub z
        omega
      · exact z
    subst he
    refine MW.of ok_Mod_tryOrder (Nat.le_of_ble_eq_true rfl) ?_
    refine cp_run 30 (fun _ => false) ck_Mod_tryOrder ?_
    simp only [cp_vc, cp_vs, cp_jm, cp_ent_en, cp_en_int, cp_en_ref, cp_en_ret, cp_en_long, cp_en_nil, cp_s1_at, cp_s2_at, cp_nl_int, cp_nl_ref, cp_nl_long, cp_nl_none, cp_pop_0, cp_pop_s, reduceIte, if_true, if_false, Bool.false_eq_true, Bool.true_eq_false, false_implies, implies_true, forall_const, true_implies, true_and, and_true, and_self, true_or, or_true, false_or, or_false, Value.category, List.length_cons, List.length_nil, Option.toList_some, Option.toList_none, List.cons_append, List.nil_append, List.append_nil, Prod.mk.injEq, Nat.add_zero, Nat.zero_add, Nat.reduceAdd, Nat.reduceSub, Nat.reduceEqDiff, Nat.reduceLeDiff, Nat.reduceLT, Nat.le_refl, beq_self_eq_true, Nat.reduceBEq, ne_eq, not_true_eq_false, not_false_eq_true, Int32.reduceAdd, Int32.reduceSub, Int32.reduceMul, Int32.reduceLE, Int32.reduceLT, Int32.reduceToNatClampNeg, b01_0, b01_1, ne_2_0, ne_3_0, ne_4_0, ne_5_0, ne_6_0, ne_m1_0, ne_m2_0, b01_01, b01_n, lt_m2, lt_m1, le_m2, le_m1, Classical.not_not, j_Mod_tryOrder_0, b_Mod_tryOrder_0, j_Mod_tryOrder_7, b_Mod_tryOrder_7, j_Mod_tryOrder_10, b_Mod_tryOrder_10, j_Mod_tryOrder_54, b_Mod_tryOrder_54, j_Mod_tryOrder_81, b_Mod_tryOrder_81, j_Mod_tryOrder_87, b_Mod_tryOrder_87, an_0, an_1, an_4, cl_0, cl_1, cl_4, ne_0_1, ne_0_4, ne_0_m1, ne_1_0, ne_1_4, ne_1_m1, ne_4_0, ne_4_1, ne_4_m1, ne_m1_0, ne_m1_1, ne_m1_4, pp_44_15, pp_44_17, pp_44_23, sh_44, sh_47, sh_49, sh_52, vi_0, vi_1, vi_4]
    simp only [sp_or, decide_true, if_true] at h
    exact h
  | succ f ih =>
    intro D come k O Q hD hc hsub hk hcard h
    obtain ⟨D, rfl⟩ : ∃ D', D = D' + 1 := ⟨d + f, by omega⟩
    have h47 : ∀ (O : Nat → Int32) j, od I 52 O 47 j = I 47 j := fun O j => od_o I 52 O (by omega) j
    have h49 : ∀ (O : Nat → Int32) j, od I 52 O 49 j = I 49 j := fun O j => od_o I 52 O (by omega) j
    rw [sp_or] at h
    refine MW.of ok_Mod_tryOrder (Nat.le_of_ble_eq_true rfl) ?_
    refine cp_run 30 (fun t => t == 10) ck_Mod_tryOrder ?_
    simp only [cp_vc, cp_vs, cp_jm, cp_ent_en, cp_en_int, cp_en_ref, cp_en_ret, cp_en_long, cp_en_nil, cp_s1_at, cp_s2_at, cp_nl_int, cp_nl_ref, cp_nl_long, cp_nl_none, cp_pop_0, cp_pop_s, reduceIte, if_true, if_false, Bool.false_eq_true, Bool.true_eq_false, false_implies, implies_true, forall_const, true_implies, true_and, and_true, and_self, true_or, or_true, false_or, or_false, Value.category, List.length_cons, List.length_nil, Option.toList_some, Option.toList_none, List.cons_append, List.nil_append, List.append_nil, Prod.mk.injEq, Nat.add_zero, Nat.zero_add, Nat.reduceAdd, Nat.reduceSub, Nat.reduceEqDiff, Nat.reduceLeDiff, Nat.reduceLT, Nat.le_refl, beq_self_eq_true, Nat.reduceBEq, ne_eq, not_true_eq_false, not_false_eq_true, Int32.reduceAdd, Int32.reduceSub, Int32.reduceMul, Int32.reduceLE, Int32.reduceLT, Int32.reduceToNatClampNeg, b01_0, b01_1, ne_2_0, ne_3_0, ne_4_0, ne_5_0, ne_6_0, ne_m1_0, ne_m2_0, b01_01, b01_n, lt_m2, lt_m1, le_m2, le_m1, Classical.not_not, j_Mod_tryOrder_0, b_Mod_tryOrder_0, j_Mod_tryOrder_7, b_Mod_tryOrder_7, j_Mod_tryOrder_10, b_Mod_tryOrder_10, j_Mod_tryOrder_54, b_Mod_tryOrder_54, j_Mod_tryOrder_81, b_Mod_tryOrder_81, j_Mod_tryOrder_87, b_Mod_tryOrder_87, an_0, an_1, an_4, cl_0, cl_1, cl_4, ne_0_1, ne_0_4, ne_0_m1, ne_1_0, ne_1_4, ne_1_m1, ne_4_0, ne_4_1, ne_4_m1, ne_m1_0, ne_m1_1, ne_m1_4, pp_44_15, pp_44_17, pp_44_23, sh_44, sh_47, sh_49, sh_52, vi_0, vi_1, vi_4, eqN (show come < 1000 by omega) (show set < 1000 by omega)]
    refine ⟨fun c => ?_, fun c => ?_⟩
    · rw [if_neg c] at h
      have hlt := card_lt hc hset hsub c
      have hcs := card_le hset
      have hand : set &&& (63 - come) < 64 := Nat.lt_of_le_of_lt Nat.and_le_left hset
      have inner : ∀ (m b : Nat) (O : Nat → Int32) (L : cp_Lo), b + m = n → L 0 = some (.ref 44) → L 1 = some (.int (nI set)) → L 2 = some (.int (nI come)) → L 3 = some (.int (nI k)) → L 4 = some (.int (nI b)) →
          Q (some (.int (if (lo (fun b O => if ((set &&& (63 - come)).testBit b && rs I n 49 (come ||| 2 ^ b)) = true then sp_or (rs I n 49) n set f (come ||| 2 ^ b) (k + 1) (upd O k (nI b)) else (false, O)) m b O).1 = true then 1 else 0))) SH (od I 52 (lo (fun b O => if ((set &&& (63 - come)).testBit b && rs I n 49 (come ||| 2 ^ b)) = true then sp_or (rs I n 49) n set f (come ||| 2 ^ b) (k + 1) (upd O k (nI b)) else (false, O)) m b O).2) J (PP t u r x) →
          RW g false (D + 1 + 6) 0 0 m_Mod_tryOrder 0 0 10 L [] SH (od I 52 O) J (PP t u r x) Q := by
        intro m
        induction m with
        | zero =>
          intro b O L hb l0 l1 l2 l3 l4 hq
          have c1 : nI n ≤ nI b := nI_le (by omega) (by omega)
          have e4 := h47 O 4
          rw [hn] at e4
          refine cp_run 60 (fun t => t == 10) ck_Mod_tryOrder ?_
          simp only [cp_vc, cp_vs, cp_jm, cp_ent_en, cp_en_int, cp_en_ref, cp_en_ret, cp_en_long, cp_en_nil, cp_s1_at, cp_s2_at, cp_nl_int, cp_nl_ref, cp_nl_long, cp_nl_none, cp_pop_0, cp_pop_s, reduceIte, if_true, if_false, Bool.false_eq_true, Bool.true_eq_false, false_implies, implies_true, forall_const, true_implies, true_and, and_true, and_self, true_or, or_true, false_or, or_false, Value.category, List.length_cons, List.length_nil, Option.toList_some, Option.toList_none, List.cons_append, List.nil_append, List.append_nil, Prod.mk.injEq, Nat.add_zero, Nat.zero_add, Nat.reduceAdd, Nat.reduceSub, Nat.reduceEqDiff, Nat.reduceLeDiff, Nat.reduceLT, Nat.le_refl, beq_self_eq_true, Nat.reduceBEq, ne_eq, not_true_eq_false, not_false_eq_true, Int32.reduceAdd, Int32.reduceSub, Int32.reduceMul, Int32.reduceLE, Int32.reduceLT, Int32.reduceToNatClampNeg, b01_0, b01_1, ne_2_0, ne_3_0, ne_4_0, ne_5_0, ne_6_0, ne_m1_0, ne_m2_0, b01_01, b01_n, lt_m2, lt_m1, le_m2, le_m1, Classical.not_not, j_Mod_tryOrder_0, b_Mod_tryOrder_0, j_Mod_tryOrder_7, b_Mod_tryOrder_7, j_Mod_tryOrder_10, b_Mod_tryOrder_10, j_Mod_tryOrder_54, b_Mod_tryOrder_54, j_Mod_tryOrder_81, b_Mod_tryOrder_81, j_Mod_tryOrder_87, b_Mod_tryOrder_87, an_0, an_1, an_4, cl_0, cl_1, cl_4, ne_0_1, ne_0_4, ne_0_m1, ne_1_0, ne_1_4, ne_1_m1, ne_4_0, ne_4_1, ne_4_m1, ne_m1_0, ne_m1_1, ne_m1_4, pp_44_15, pp_44_17, pp_44_23, sh_44, sh_47, sh_49, sh_52, vi_0, vi_1, vi_4, l0, l1, l2, l3, l4, e4, c1]
          simp only [lo, Bool.false_eq_true, if_false] at hq
          exact hq
        | succ m ihm =>
          intro b O L hb l0 l1 l2 l3 l4 hq
          have c1 : ¬ nI n ≤ nI b := nI_ge (by omega) (by omega)
          have hb6 : b < 6 := by omega
          have hpb := pow_lt64 hb6
          have e4 := h47 O 4
          rw [hn] at e4
          rw [lo] at hq
          have skip : ((set &&& (63 - come)).testBit b && rs I n 49 (come ||| 2 ^ b)) = false → RW g false (D + 1 + 6) 0 0 m_Mod_tryOrder 0 0 10 (cp_s1 L 4 (.int (nI (b + 1)))) [] SH (od I 52 O) J (PP t u r x) Q := by
            intro e
            simp only [e, Bool.false_eq_true, if_false] at hq
            refine ihm (b + 1) O _ (by omega) ?_ ?_ ?_ ?_ ?_ hq <;> simp [cp_s1_at, cp_nl_int, cp_nl_ref, l0, l1, l2, l3]
          refine cp_run 60 (fun t => t == 10) ck_Mod_tryOrder ?_
          simp only [cp_vc, cp_vs, cp_jm, cp_ent_en, cp_en_int, cp_en_ref, cp_en_ret, cp_en_long, cp_en_nil, cp_s1_at, cp_s2_at, cp_nl_int, cp_nl_ref, cp_nl_long, cp_nl_none, cp_pop_0, cp_pop_s, reduceIte, if_true, if_false, Bool.false_eq_true, Bool.true_eq_false, false_implies, implies_true, forall_const, true_implies, true_and, and_true, and_self, true_or, or_true, false_or, or_false, Value.category, List.length_cons, List.length_nil, Option.toList_some, Option.toList_none, List.cons_append, List.nil_append, List.append_nil, Prod.mk.injEq, Nat.add_zero, Nat.zero_add, Nat.reduceAdd, Nat.reduceSub, Nat.reduceEqDiff, Nat.reduceLeDiff, Nat.reduceLT, Nat.le_refl, beq_self_eq_true, Nat.reduceBEq, ne_eq, not_true_eq_false, not_false_eq_true, Int32.reduceAdd, Int32.reduceSub, Int32.reduceMul, Int32.reduceLE, Int32.reduceLT, Int32.reduceToNatClampNeg, b01_0, b01_1, ne_2_0, ne_3_0, ne_4_0, ne_5_0, ne_6_0, ne_m1_0, ne_m2_0, b01_01, b01_n, lt_m2, lt_m1, le_m2, le_m1, Classical.not_not, j_Mod_tryOrder_0, b_Mod_tryOrder_0, j_Mod_tryOrder_7, b_Mod_tryOrder_7, j_Mod_tryOrder_10, b_Mod_tryOrder_10, j_Mod_tryOrder_54, b_Mod_tryOrder_54, j_Mod_tryOrder_81, b_Mod_tryOrder_81, j_Mod_tryOrder_87, b_Mod_tryOrder_87, an_0, an_1, an_4, cl_0, cl_1, cl_4, ne_0_1, ne_0_4, ne_0_m1, ne_1_0, ne_1_4, ne_1_m1, ne_4_0, ne_4_1, ne_4_m1, ne_m1_0, ne_m1_1, ne_m1_4, pp_44_15, pp_44_17, pp_44_23, sh_44, sh_47, sh_49, sh_52, vi_0, vi_1, vi_4, l0, l1, l2, l3, l4, e4, c1, andn2_nI hset hc]
          refine c_Mod_hb hand (by omega) ?_
          simp only [cp_kk, cp_vc, cp_vs, cp_jm, cp_ent_en, cp_en_int, cp_en_ref, cp_en_ret, cp_en_long, cp_en_nil, cp_s1_at, cp_s2_at, cp_nl_int, cp_nl_ref, cp_nl_long, cp_nl_none, cp_pop_0, cp_pop_s, reduceIte, if_true, if_false, Bool.false_eq_true, Bool.true_eq_false, false_implies, implies_true, forall_const, true_implies, true_and, and_true, and_self, true_or, or_true, false_or, or_false, Value.category, List.length_cons, List.length_nil, Option.toList_some, Option.toList_none, List.cons_append, List.nil_append, List.append_nil, Prod.mk.injEq, Nat.add_zero, Nat.zero_add, Nat.reduceAdd, Nat.reduceSub, Nat.reduceEqDiff, Nat.reduceLeDiff, Nat.reduceLT, Nat.le_refl, beq_self_eq_true, Nat.reduceBEq, ne_eq, not_true_eq_false, not_false_eq_true, Int32.reduceAdd, Int32.reduceSub, Int32.reduceMul, Int32.reduceLE, Int32.reduceLT, Int32.reduceToNatClampNeg, b01_0, b01_1, ne_2_0, ne_3_0, ne_4_0, ne_5_0, ne_6_0, ne_m1_0, ne_m2_0, b01_01, b01_n, lt_m2, lt_m1, le_m2, le_m1, Classical.not_not, Bool.or_false, Bool.false_or, Bool.true_or, Bool.or_true, j_Mod_tryOrder_0, b_Mod_tryOrder_0, j_Mod_tryOrder_7, b_Mod_tryOrder_7, j_Mod_tryOrder_10, b_Mod_tryOrder_10, j_Mod_tryOrder_54, b_Mod_tryOrder_54, j_Mod_tryOrder_81, b_Mod_tryOrder_81, j_Mod_tryOrder_87, b_Mod_tryOrder_87, an_0, an_1, an_4, cl_0, cl_1, cl_4, ne_0_1, ne_0_4, ne_0_m1, ne_1_0, ne_1_4, ne_1_m1, ne_4_0, ne_4_1, ne_4_m1, ne_m1_0, ne_m1_1, ne_m1_4, pp_44_15, pp_44_17, pp_44_23, sh_44, sh_47, sh_49, sh_52, vi_0, vi_1, vi_4, l0, l1, l2, l3, l4, nI_1, sh1 (show b < 8 by omega), or_nI hc hpb]
          refine ⟨fun b1 => skip (by simp [b1]), fun b1 => ?_⟩
          obtain ⟨k1, k2⟩ := card_or hc hset hb6 hsub b1
          refine c_Mod_isSnug sh_49 (or_lt64 hc hpb) hn6 (by rw [h47]; exact hn) ?_
          rw [rs_c (h47 O) (h49 O)]
          simp only [cp_kk, cp_vc, cp_vs, cp_jm, cp_ent_en, cp_en_int, cp_en_ref, cp_en_ret, cp_en_long, cp_en_nil, cp_s1_at, cp_s2_at, cp_nl_int, cp_nl_ref, cp_nl_long, cp_nl_none, cp_pop_0, cp_pop_s, reduceIte, if_true, if_false, Bool.false_eq_true, Bool.true_eq_false, false_implies, implies_true, forall_const, true_implies, true_and, and_true, and_self, true_or, or_true, false_or, or_false, Value.category, List.length_cons, List.length_nil, Option.toList_some, Option.toList_none, List.cons_append, List.nil_append, List.append_nil, Prod.mk.injEq, Nat.add_zero, Nat.zero_add, Nat.reduceAdd, Nat.reduceSub, Nat.reduceEqDiff, Nat.reduceLeDiff, Nat.reduceLT, Nat.le_refl, beq_self_eq_true, Nat.reduceBEq, ne_eq, not_true_eq_false, not_false_eq_true, Int32.reduceAdd, Int32.reduceSub, Int32.reduceMul, Int32.reduceLE, Int32.reduceLT, Int32.reduceToNatClampNeg, b01_0, b01_1, ne_2_0, ne_3_0, ne_4_0, ne_5_0, ne_6_0, ne_m1_0, ne_m2_0, b01_01, b01_n, lt_m2, lt_m1, le_m2, le_m1, Classical.not_not, Bool.or_false, Bool.false_or, Bool.true_or, Bool.or_true, j_Mod_tryOrder_0, b_Mod_tryOrder_0, j_Mod_tryOrder_7, b_Mod_tryOrder_7, j_Mod_tryOrder_10, b_Mod_tryOrder_10, j_Mod_tryOrder_54, b_Mod_tryOrder_54, j_Mod_tryOrder_81, b_Mod_tryOrder_81, j_Mod_tryOrder_87, b_Mod_tryOrder_87, an_0, an_1, an_4, cl_0, cl_1, cl_4, ne_0_1, ne_0_4, ne_0_m1, ne_1_0, ne_1_4, ne_1_m1, ne_4_0, ne_4_1, ne_4_m1, ne_m1_0, ne_m1_1, ne_m1_4, pp_44_15, pp_44_17, pp_44_23, sh_44, sh_47, sh_49, sh_52, vi_0, vi_1, vi_4, l0, l1, l2, l3, l4, nI_1, sh1 (show b < 8 by omega), or_nI hc hpb, vin (show k < 6 by omega) (by omega), ncl (show k < 1000 by omega), od_u]
          refine ⟨fun b2 => ?_, fun b2 => skip (by simp [b2])⟩
          simp only [b1, b2, Bool.and_self, if_true] at hq
          refine ih D (come ||| 2 ^ b) (k + 1) _ _ (by omega) (or_lt64 hc hpb) k2 (by omega) (by omega) ?_
          simp only [cp_kk, cp_vc, cp_vs, cp_jm, cp_ent_en, cp_en_int, cp_en_ref, cp_en_ret, cp_en_long, cp_en_nil, cp_s1_at, cp_s2_at, cp_nl_int, cp_nl_ref, cp_nl_long, cp_nl_none, cp_pop_0, cp_pop_s, reduceIte, if_true, if_false, Bool.false_eq_true, Bool.true_eq_false, false_implies, implies_true, forall_const, true_implies, true_and, and_true, and_self, true_or, or_true, false_or, or_false, Value.category, List.length_cons, List.length_nil, Option.toList_some, Option.toList_none, List.cons_append, List.nil_append, List.append_nil, Prod.mk.injEq, Nat.add_zero, Nat.zero_add, Nat.reduceAdd, Nat.reduceSub, Nat.reduceEqDiff, Nat.reduceLeDiff, Nat.reduceLT, Nat.le_refl, beq_self_eq_true, Nat.reduceBEq, ne_eq, not_true_eq_false, not_false_eq_true, Int32.reduceAdd, Int32.reduceSub, Int32.reduceMul, Int32.reduceLE, Int32.reduceLT, Int32.reduceToNatClampNeg, b01_0, b01_1, ne_2_0, ne_3_0, ne_4_0, ne_5_0, ne_6_0, ne_m1_0, ne_m2_0, b01_01, b01_n, lt_m2, lt_m1, le_m2, le_m1, Classical.not_not, Bool.or_false, Bool.false_or, Bool.true_or, Bool.or_true, j_Mod_tryOrder_0, b_Mod_tryOrder_0, j_Mod_tryOrder_7, b_Mod_tryOrder_7, j_Mod_tryOrder_10, b_Mod_tryOrder_10, j_Mod_tryOrder_54, b_Mod_tryOrder_54, j_Mod_tryOrder_81, b_Mod_tryOrder_81, j_Mod_tryOrder_87, b_Mod_tryOrder_87, an_0, an_1, an_4, cl_0, cl_1, cl_4, ne_0_1, ne_0_4, ne_0_m1, ne_1_0, ne_1_4, ne_1_m1, ne_4_0, ne_4_1, ne_4_m1, ne_m1_0, ne_m1_1, ne_m1_4, pp_44_15, pp_44_17, pp_44_23, sh_44, sh_47, sh_49, sh_52, vi_0, vi_1, vi_4, l0, l1, l2, l3, l4, nI_1]
          refine ⟨fun b3 => ?_, fun b3 => ?_⟩
          · rw [if_neg b3] at hq
            refine ihm (b + 1) _ _ (by omega) ?_ ?_ ?_ ?_ ?_ hq <;> simp [cp_s1_at, cp_nl_int, cp_nl_ref, l0, l1, l2, l3]
          · rw [if_pos b3] at hq
            simp only [b3, if_true] at hq
            exact hq
      refine inner n 0 O _ (by omega) ?_ ?_ ?_ ?_ ?_ h <;> simp [cp_s1_at, cp_ent_en, cp_en_int, cp_en_ref, cp_nl_int, cp_nl_ref, nI_0]
    · rw [if_pos c] at h
      exact h
theorem card_0 : card 0 = 0 := by decide
theorem in_cd {m j : Nat} (hm : m < 1000) (hj : j < 2 ^ 31) : (nI m - 1 < nI j) = (m ≤ j) := by
  cases m with
  | zero =>
    have : (nI 0 - 1 : Int32) = -1 := by decide +kernel
    rw [this]
    have h0 := nI_pos' hj
    have h1 : (-1 : Int32) < 0 := by decide +kernel
    simp only [Nat.zero_le, eq_iff_iff, iff_true]
    rw [Int32.lt_iff_toInt_lt] at h1 ⊢
    rw [Int32.le_iff_toInt_le] at h0
    omega
  | succ m =>
    rw [nI_pred]
    exact propext ((nI_ltI (by omega) hj).trans (by omega))
/-- an order for a set, from nobody on -/
def ro (I : cp_I) (n s : Nat) : Bool × (Nat → Int32) := sp_or (rs I n 49) n s 6 0 0 (I 52)
theorem c_Mod_tryOrder0 {n s : Nat} (hn6 : n ≤ 6) (hn : I 47 4 = nI n) (hs : s < 64) (h : Q (some (.int (if (ro I n s).1 = true then 1 else 0))) SH (od I 52 (ro I n s).2) J (PP t u r x)) : MW g false (d + 12) 0 0 m_Mod_tryOrder [.ref 44, .int (nI s), .int 0, .int 0] SH I J (PP t u r x) Q := by
  have := c_Mod_tryOrder (g := g) (d := d) (I := I) (J := J) (t := t) (u := u) (r := r) (x := x) hn6 hn hs 6 (d + 6) 0 0 (I 52) Q rfl (by omega) (by simp) card_0.symm (by rw [card_0]; have := card_le hs; omega) h
  rw [od_self] at this
  exact this
theorem ro_gd (I : cp_I) (n s : Nat) : ro (gd I) n s = ro I n s := by
  unfold ro
  rw [show rs (gd I) n 49 = rs I n 49 from funext fun s => rs_gd I n s]
  congr 1
theorem od47 (I : cp_I) (O : Nat → Int32) (j : Nat) : od I 52 O 47 j = I 47 j := od_o I 52 O (by omega) j
theorem od52 (I : cp_I) (O : Nat → Int32) (j : Nat) : od I 52 O 52 j = O j := od_c I 52 O j
theorem c_Mod_comes {n : Nat} {a : Int32} (hn6 : n ≤ 6) (hn : I 47 4 = nI n) (h01 : I 44 14 = 0 ∨ I 44 14 = 1) (h1 : ∀ s, sw I n a = 0 → s < 64 → a = nI s → Q (some (.int (if (ro I n s).1 = true then 1 else 0))) SH (od (gd I) 52 (ro I n s).2) J (PP t u r x)) (h0 : ¬ sw I n a = 0 → Q (some (.int (-1))) SH (cp_u (gd I) 44 11 (sw I n a)) J (PP t u r x)) : MW g false (d + 13) 0 0 m_Mod_comes [.ref 44, .int a] SH I J (PP t u r x) Q := by
  refine MW.of ok_Mod_comes (Nat.le_of_ble_eq_true rfl) ?_
  refine cp_run 30 (fun _ => false) ck_Mod_comes ?_
  simp only [cp_vc, cp_vs, cp_jm, cp_ent_en, cp_en_int, cp_en_ref, cp_en_ret, cp_en_long, cp_en_nil, cp_s1_at, cp_s2_at, cp_nl_int, cp_nl_ref, cp_nl_long, cp_nl_none, cp_pop_0, cp_pop_s, reduceIte, if_true, if_false, Bool.false_eq_true, Bool.true_eq_false, false_implies, implies_true, forall_const, true_implies, true_and, and_true, and_self, true_or, or_true, false_or, or_false, Value.category, List.length_cons, List.length_nil, Option.toList_some, Option.toList_none, List.cons_append, List.nil_append, List.append_nil, Prod.mk.injEq, Nat.add_zero, Nat.zero_add, Nat.reduceAdd, Nat.reduceSub, Nat.reduceEqDiff, Nat.reduceLeDiff, Nat.reduceLT, Nat.le_refl, beq_self_eq_true, Nat.reduceBEq, ne_eq, not_true_eq_false, not_false_eq_true, Int32.reduceAdd, Int32.reduceSub, Int32.reduceMul, Int32.reduceLE, Int32.reduceLT, Int32.reduceToNatClampNeg, b01_0, b01_1, ne_2_0, ne_3_0, ne_4_0, ne_5_0, ne_6_0, ne_m1_0, ne_m2_0, b01_01, b01_n, lt_m2, lt_m1, le_m2, le_m1, Classical.not_not, j_Mod_comes_0, b_Mod_comes_0, j_Mod_comes_20, b_Mod_comes_20, j_Mod_comes_34, b_Mod_comes_34, j_Mod_comes_35, b_Mod_comes_35, an_0, an_1, cl_0, cl_1, ne_0_1, ne_1_0, sh_44, vi_0, vi_1]
  refine c_Mod_gd ?_
  simp only [cp_kk, cp_vc, cp_vs, cp_jm, cp_ent_en, cp_en_int, cp_en_ref, cp_en_ret, cp_en_long, cp_en_nil, cp_s1_at, cp_s2_at, cp_nl_int, cp_nl_ref, cp_nl_long, cp_nl_none, cp_pop_0, cp_pop_s, reduceIte, if_true, if_false, Bool.false_eq_true, Bool.true_eq_false, false_implies, implies_true, forall_const, true_implies, true_and, and_true, and_self, true_or, or_true, false_or, or_false, Value.category, List.length_cons, List.length_nil, Option.toList_some, Option.toList_none, List.cons_append, List.nil_append, List.append_nil, Prod.mk.injEq, Nat.add_zero, Nat.zero_add, Nat.reduceAdd, Nat.reduceSub, Nat.reduceEqDiff, Nat.reduceLeDiff, Nat.reduceLT, Nat.le_refl, beq_self_eq_true, Nat.reduceBEq, ne_eq, not_true_eq_false, not_false_eq_true, Int32.reduceAdd, Int32.reduceSub, Int32.reduceMul, Int32.reduceLE, Int32.reduceLT, Int32.reduceToNatClampNeg, b01_0, b01_1, ne_2_0, ne_3_0, ne_4_0, ne_5_0, ne_6_0, ne_m1_0, ne_m2_0, b01_01, b01_n, lt_m2, lt_m1, le_m2, le_m1, Classical.not_not, Bool.or_false, Bool.false_or, Bool.true_or, Bool.or_true, j_Mod_comes_0, b_Mod_comes_0, j_Mod_comes_20, b_Mod_comes_20, j_Mod_comes_34, b_Mod_comes_34, j_Mod_comes_35, b_Mod_comes_35, an_0, an_1, cl_0, cl_1, ne_0_1, ne_1_0, sh_44, vi_0, vi_1]
  refine c_Mod_setWhy hn6 (by rw [gd47]; exact hn) (by rw [gd_14]; exact h01) ?_
  rw [sw_gd]
  simp only [cp_kk, cp_vc, cp_vs, cp_jm, cp_ent_en, cp_en_int, cp_en_ref, cp_en_ret, cp_en_long, cp_en_nil, cp_s1_at, cp_s2_at, cp_nl_int, cp_nl_ref, cp_nl_long, cp_nl_none, cp_pop_0, cp_pop_s, reduceIte, if_true, if_false, Bool.false_eq_true, Bool.true_eq_false, false_implies, implies_true, forall_const, true_implies, true_and, and_true, and_self, true_or, or_true, false_or, or_false, Value.category, List.length_cons, List.length_nil, Option.toList_some, Option.toList_none, List.cons_append, List.nil_append, List.append_nil, Prod.mk.injEq, Nat.add_zero, Nat.zero_add, Nat.reduceAdd, Nat.reduceSub, Nat.reduceEqDiff, Nat.reduceLeDiff, Nat.reduceLT, Nat.le_refl, beq_self_eq_true, Nat.reduceBEq, ne_eq, not_true_eq_false, not_false_eq_true, Int32.reduceAdd, Int32.reduceSub, Int32.reduceMul, Int32.reduceLE, Int32.reduceLT, Int32.reduceToNatClampNeg, b01_0, b01_1, ne_2_0, ne_3_0, ne_4_0, ne_5_0, ne_6_0, ne_m1_0, ne_m2_0, b01_01, b01_n, lt_m2, lt_m1, le_m2, le_m1, Classical.not_not, Bool.or_false, Bool.false_or, Bool.true_or, Bool.or_true, j_Mod_comes_0, b_Mod_comes_0, j_Mod_comes_20, b_Mod_comes_20, j_Mod_comes_34, b_Mod_comes_34, j_Mod_comes_35, b_Mod_comes_35, an_0, an_1, cl_0, cl_1, ne_0_1, ne_1_0, sh_44, vi_0, vi_1]
  refine ⟨fun c => ?_, fun c => ?_⟩
  · obtain ⟨-, s, -, hs, rfl⟩ := sw_0 hn6 c
    refine c_Mod_tryOrder0 hn6 (by rw [gd47]; exact hn) hs ?_
    rw [ro_gd]
    simp only [cp_kk, cp_vc, cp_vs, cp_jm, cp_ent_en, cp_en_int, cp_en_ref, cp_en_ret, cp_en_long, cp_en_nil, cp_s1_at, cp_s2_at, cp_nl_int, cp_nl_ref, cp_nl_long, cp_nl_none, cp_pop_0, cp_pop_s, reduceIte, if_true, if_false, Bool.false_eq_true, Bool.true_eq_false, false_implies, implies_true, forall_const, true_implies, true_and, and_true, and_self, true_or, or_true, false_or, or_false, Value.category, List.length_cons, List.length_nil, Option.toList_some, Option.toList_none, List.cons_append, List.nil_append, List.append_nil, Prod.mk.injEq, Nat.add_zero, Nat.zero_add, Nat.reduceAdd, Nat.reduceSub, Nat.reduceEqDiff, Nat.reduceLeDiff, Nat.reduceLT, Nat.le_refl, beq_self_eq_true, Nat.reduceBEq, ne_eq, not_true_eq_false, not_false_eq_true, Int32.reduceAdd, Int32.reduceSub, Int32.reduceMul, Int32.reduceLE, Int32.reduceLT, Int32.reduceToNatClampNeg, b01_0, b01_1, ne_2_0, ne_3_0, ne_4_0, ne_5_0, ne_6_0, ne_m1_0, ne_m2_0, b01_01, b01_n, lt_m2, lt_m1, le_m2, le_m1, Classical.not_not, Bool.or_false, Bool.false_or, Bool.true_or, Bool.or_true, j_Mod_comes_0, b_Mod_comes_0, j_Mod_comes_20, b_Mod_comes_20, j_Mod_comes_34, b_Mod_comes_34, j_Mod_comes_35, b_Mod_comes_35, an_0, an_1, cl_0, cl_1, ne_0_1, ne_1_0, sh_44, vi_0, vi_1]
    have := h1 s c hs rfl
    refine ⟨fun b => ?_, fun b => ?_⟩
    · rw [if_neg b] at this
      exact this
    · rw [if_pos b] at this
      exact this
  · refine c_Mod_no ?_
    simp only [cp_kk, cp_vc, cp_vs, cp_jm, cp_ent_en, cp_en_int, cp_en_ref, cp_en_ret, cp_en_long, cp_en_nil, cp_s1_at, cp_s2_at, cp_nl_int, cp_nl_ref, cp_nl_long, cp_nl_none, cp_pop_0, cp_pop_s, reduceIte, if_true, if_false, Bool.false_eq_true, Bool.true_eq_false, false_implies, implies_true, forall_const, true_implies, true_and, and_true, and_self, true_or, or_true, false_or, or_false, Value.category, List.length_cons, List.length_nil, Option.toList_some, Option.toList_none, List.cons_append, List.nil_append, List.append_nil, Prod.mk.injEq, Nat.add_zero, Nat.zero_add, Nat.reduceAdd, Nat.reduceSub, Nat.reduceEqDiff, Nat.reduceLeDiff, Nat.reduceLT, Nat.le_refl, beq_self_eq_true, Nat.reduceBEq, ne_eq, not_true_eq_false, not_false_eq_true, Int32.reduceAdd, Int32.reduceSub, Int32.reduceMul, Int32.reduceLE, Int32.reduceLT, Int32.reduceToNatClampNeg, b01_0, b01_1, ne_2_0, ne_3_0, ne_4_0, ne_5_0, ne_6_0, ne_m1_0, ne_m2_0, b01_01, b01_n, lt_m2, lt_m1, le_m2, le_m1, Classical.not_not, Bool.or_false, Bool.false_or, Bool.true_or, Bool.or_true, j_Mod_comes_0, b_Mod_comes_0, j_Mod_comes_20, b_Mod_comes_20, j_Mod_comes_34, b_Mod_comes_34, j_Mod_comes_35, b_Mod_comes_35, an_0, an_1, cl_0, cl_1, ne_0_1, ne_1_0, sh_44, vi_0, vi_1]
    exact h0 c
theorem c_Mod_comesAt {n : Nat} {a i : Int32} (hn6 : n ≤ 6) (hn : I 47 4 = nI n) (h01 : I 44 14 = 0 ∨ I 44 14 = 1)
    (h1 : ∀ s k, sw I n a = 0 → s < 64 → a = nI s → (ro I n s).1 = true → i = nI k → k < card s → Q (some (.int ((ro I n s).2 k))) SH (od (gd I) 52 (ro I n s).2) J (PP t u r x))
    (h2 : ∀ s, sw I n a = 0 → s < 64 → a = nI s → ¬ ((ro I n s).1 = true ∧ ∃ k, i = nI k ∧ k < card s) → Q (some (.int (-1))) SH (cp_u (od (gd I) 52 (ro I n s).2) 44 11 1) J (PP t u r x))
    (h0 : ¬ sw I n a = 0 → Q (some (.int (-1))) SH (cp_u (gd I) 44 11 (sw I n a)) J (PP t u r x)) : MW g false (d + 13) 0 0 m_Mod_comesAt [.ref 44, .int a, .int i] SH I J (PP t u r x) Q := by
  refine MW.of ok_Mod_comesAt (Nat.le_of_ble_eq_true rfl) ?_
  refine cp_run 30 (fun _ => false) ck_Mod_comesAt ?_
  simp only [cp_vc, cp_vs, cp_jm, cp_ent_en, cp_en_int, cp_en_ref, cp_en_ret, cp_en_long, cp_en_nil, cp_s1_at, cp_s2_at, cp_nl_int, cp_nl_ref, cp_nl_long, cp_nl_none, cp_pop_0, cp_pop_s, reduceIte, if_true, if_false, Bool.false_eq_true, Bool.true_eq_false, false_implies, implies_true, forall_const, true_implies, true_and, and_true, and_self, true_or, or_true, false_or, or_false, Value.category, List.length_cons, List.length_nil, Option.toList_some, Option.toList_none, List.cons_append, List.nil_append, List.append_nil, Prod.mk.injEq, Nat.add_zero, Nat.zero_add, Nat.reduceAdd, Nat.reduceSub, Nat.reduceEqDiff, Nat.reduceLeDiff, Nat.reduceLT, Nat.le_refl, beq_self_eq_true, Nat.reduceBEq, ne_eq, not_true_eq_false, not_false_eq_true, Int32.reduceAdd, Int32.reduceSub, Int32.reduceMul, Int32.reduceLE, Int32.reduceLT, Int32.reduceToNatClampNeg, b01_0, b01_1, ne_2_0, ne_3_0, ne_4_0, ne_5_0, ne_6_0, ne_m1_0, ne_m2_0, b01_01, b01_n, lt_m2, lt_m1, le_m2, le_m1, Classical.not_not, j_Mod_comesAt_0, b_Mod_comesAt_0, j_Mod_comesAt_20, b_Mod_comesAt_20, j_Mod_comesAt_53, b_Mod_comesAt_53, j_Mod_comesAt_58, b_Mod_comesAt_58, an_0, an_1, cl_0, cl_1, ne_0_1, ne_1_0, pp_44_23, sh_44, sh_52, vi_0, vi_1]
  refine c_Mod_gd ?_
  simp only [cp_kk, cp_vc, cp_vs, cp_jm, cp_ent_en, cp_en_int, cp_en_ref, cp_en_ret, cp_en_long, cp_en_nil, cp_s1_at, cp_s2_at, cp_nl_int, cp_nl_ref, cp_nl_long, cp_nl_none, cp_pop_0, cp_pop_s, reduceIte, if_true, if_false, Bool.false_eq_true, Bool.true_eq_false, false_implies, implies_true, forall_const, true_implies, true_and, and_true, and_self, true_or, or_true, false_or, or_false, Value.category, List.length_cons, List.length_nil, Option.toList_some, Option.toList_none, List.cons_append, List.nil_append, List.append_nil, Prod.mk.injEq, Nat.add_zero, Nat.zero_add, Nat.reduceAdd, Nat.reduceSub, Nat.reduceEqDiff, Nat.reduceLeDiff, Nat.reduceLT, Nat.le_refl, beq_self_eq_true, Nat.reduceBEq, ne_eq, not_true_eq_false, not_false_eq_true, Int32.reduceAdd, Int32.reduceSub, Int32.reduceMul, Int32.reduceLE, Int32.reduceLT, Int32.reduceToNatClampNeg, b01_0, b01_1, ne_2_0, ne_3_0, ne_4_0, ne_5_0, ne_6_0, ne_m1_0, ne_m2_0, b01_01, b01_n, lt_m2, lt_m1, le_m2, le_m1, Classical.not_not, Bool.or_false, Bool.false_or, Bool.true_or, Bool.or_true, j_Mod_comesAt_0, b_Mod_comesAt_0, j_Mod_comesAt_20, b_Mod_comesAt_20, j_Mod_comesAt_53, b_Mod_comesAt_53, j_Mod_comesAt_58, b_Mod_comesAt_58, an_0, an_1, cl_0, cl_1, ne_0_1, ne_1_0, pp_44_23, sh_44, sh_52, vi_0, vi_1]
  refine c_Mod_setWhy hn6 (by rw [gd47]; exact hn) (by rw [gd_14]; exact h01) ?_
  rw [sw_gd]
  simp only [cp_kk, cp_vc, cp_vs, cp_jm, cp_ent_en, cp_en_int, cp_en_ref, cp_en_ret, cp_en_long, cp_en_nil, cp_s1_at, cp_s2_at, cp_nl_int, cp_nl_ref, cp_nl_long, cp_nl_none, cp_pop_0, cp_pop_s, reduceIte, if_true, if_false, Bool.false_eq_true, Bool.true_eq_false, false_implies, implies_true, forall_const, true_implies, true_and, and_true, and_self, true_or, or_true, false_or, or_false, Value.category, List.length_cons, List.length_nil, Option.toList_some, Option.toList_none, List.cons_append, List.nil_append, List.append_nil, Prod.mk.injEq, Nat.add_zero, Nat.zero_add, Nat.reduceAdd, Nat.reduceSub, Nat.reduceEqDiff, Nat.reduceLeDiff, Nat.reduceLT, Nat.le_refl, beq_self_eq_true, Nat.reduceBEq, ne_eq, not_true_eq_false, not_false_eq_true, Int32.reduceAdd, Int32.reduceSub, Int32.reduceMul, Int32.reduceLE, Int32.reduceLT, Int32.reduceToNatClampNeg, b01_0, b01_1, ne_2_0, ne_3_0, ne_4_0, ne_5_0, ne_6_0, ne_m1_0, ne_m2_0, b01_01, b01_n, lt_m2, lt_m1, le_m2, le_m1, Classical.not_not, Bool.or_false, Bool.false_or, Bool.true_or, Bool.or_true, j_Mod_comesAt_0, b_Mod_comesAt_0, j_Mod_comesAt_20, b_Mod_comesAt_20, j_Mod_comesAt_53, b_Mod_comesAt_53, j_Mod_comesAt_58, b_Mod_comesAt_58, an_0, an_1, cl_0, cl_1, ne_0_1, ne_1_0, pp_44_23, sh_44, sh_52, vi_0, vi_1]
  refine ⟨fun c => ?_, fun c => ?_⟩
  · obtain ⟨-, s, -, hs, rfl⟩ := sw_0 hn6 c
    refine c_Mod_tryOrder0 hn6 (by rw [gd47]; exact hn) hs ?_
    rw [ro_gd]
    simp only [cp_kk, cp_vc, cp_vs, cp_jm, cp_ent_en, cp_en_int, cp_en_ref, cp_en_ret, cp_en_long, cp_en_nil, cp_s1_at, cp_s2_at, cp_nl_int, cp_nl_ref, cp_nl_long, cp_nl_none, cp_pop_0, cp_pop_s, reduceIte, if_true, if_false, Bool.false_eq_true, Bool.true_eq_false, false_implies, implies_true, forall_const, true_implies, true_and, and_true, and_self, true_or, or_true, false_or, or_false, Value.category, List.length_cons, List.length_nil, Option.toList_some, Option.toList_none, List.cons_append, List.nil_append, List.append_nil, Prod.mk.injEq, Nat.add_zero, Nat.zero_add, Nat.reduceAdd, Nat.reduceSub, Nat.reduceEqDiff, Nat.reduceLeDiff, Nat.reduceLT, Nat.le_refl, beq_self_eq_true, Nat.reduceBEq, ne_eq, not_true_eq_false, not_false_eq_true, Int32.reduceAdd, Int32.reduceSub, Int32.reduceMul, Int32.reduceLE, Int32.reduceLT, Int32.reduceToNatClampNeg, b01_0, b01_1, ne_2_0, ne_3_0, ne_4_0, ne_5_0, ne_6_0, ne_m1_0, ne_m2_0, b01_01, b01_n, lt_m2, lt_m1, le_m2, le_m1, Classical.not_not, Bool.or_false, Bool.false_or, Bool.true_or, Bool.or_true, j_Mod_comesAt_0, b_Mod_comesAt_0, j_Mod_comesAt_20, b_Mod_comesAt_20, j_Mod_comesAt_53, b_Mod_comesAt_53, j_Mod_comesAt_58, b_Mod_comesAt_58, an_0, an_1, cl_0, cl_1, ne_0_1, ne_1_0, pp_44_23, sh_44, sh_52, vi_0, vi_1]
    have hc6 := card_le hs
    refine ⟨fun b => ?_, fun b => ?_⟩
    · refine c_Mod_no ?_
      simp only [cp_kk, cp_vc, cp_vs, cp_jm, cp_ent_en, cp_en_int, cp_en_ref, cp_en_ret, cp_en_long, cp_en_nil, cp_s1_at, cp_s2_at, cp_nl_int, cp_nl_ref, cp_nl_long, cp_nl_none, cp_pop_0, cp_pop_s, reduceIte, if_true, if_false, Bool.false_eq_true, Bool.true_eq_false, false_implies, implies_true, forall_const, true_implies, true_and, and_true, and_self, true_or, or_true, false_or, or_false, Value.category, List.length_cons, List.length_nil, Option.toList_some, Option.toList_none, List.cons_append, List.nil_append, List.append_nil, Prod.mk.injEq, Nat.add_zero, Nat.zero_add, Nat.reduceAdd, Nat.reduceSub, Nat.reduceEqDiff, Nat.reduceLeDiff, Nat.reduceLT, Nat.le_refl, beq_self_eq_true, Nat.reduceBEq, ne_eq, not_true_eq_false, not_false_eq_true, Int32.reduceAdd, Int32.reduceSub, Int32.reduceMul, Int32.reduceLE, Int32.reduceLT, Int32.reduceToNatClampNeg, b01_0, b01_1, ne_2_0, ne_3_0, ne_4_0, ne_5_0, ne_6_0, ne_m1_0, ne_m2_0, b01_01, b01_n, lt_m2, lt_m1, le_m2, le_m1, Classical.not_not, Bool.or_false, Bool.false_or, Bool.true_or, Bool.or_true, j_Mod_comesAt_0, b_Mod_comesAt_0, j_Mod_comesAt_20, b_Mod_comesAt_20, j_Mod_comesAt_53, b_Mod_comesAt_53, j_Mod_comesAt_58, b_Mod_comesAt_58, an_0, an_1, cl_0, cl_1, ne_0_1, ne_1_0, pp_44_23, sh_44, sh_52, vi_0, vi_1]
      exact h2 s c hs rfl (fun q => b q.1)
    · refine c_Mod_ones hs ?_
      simp only [cp_kk, cp_vc, cp_vs, cp_jm, cp_ent_en, cp_en_int, cp_en_ref, cp_en_ret, cp_en_long, cp_en_nil, cp_s1_at, cp_s2_at, cp_nl_int, cp_nl_ref, cp_nl_long, cp_nl_none, cp_pop_0, cp_pop_s, reduceIte, if_true, if_false, Bool.false_eq_true, Bool.true_eq_false, false_implies, implies_true, forall_const, true_implies, true_and, and_true, and_self, true_or, or_true, false_or, or_false, Value.category, List.length_cons, List.length_nil, Option.toList_some, Option.toList_none, List.cons_append, List.nil_append, List.append_nil, Prod.mk.injEq, Nat.add_zero, Nat.zero_add, Nat.reduceAdd, Nat.reduceSub, Nat.reduceEqDiff, Nat.reduceLeDiff, Nat.reduceLT, Nat.le_refl, beq_self_eq_true, Nat.reduceBEq, ne_eq, not_true_eq_false, not_false_eq_true, Int32.reduceAdd, Int32.reduceSub, Int32.reduceMul, Int32.reduceLE, Int32.reduceLT, Int32.reduceToNatClampNeg, b01_0, b01_1, ne_2_0, ne_3_0, ne_4_0, ne_5_0, ne_6_0, ne_m1_0, ne_m2_0, b01_01, b01_n, lt_m2, lt_m1, le_m2, le_m1, Classical.not_not, Bool.or_false, Bool.false_or, Bool.true_or, Bool.or_true, j_Mod_comesAt_0, b_Mod_comesAt_0, j_Mod_comesAt_20, b_Mod_comesAt_20, j_Mod_comesAt_53, b_Mod_comesAt_53, j_Mod_comesAt_58, b_Mod_comesAt_58, an_0, an_1, cl_0, cl_1, ne_0_1, ne_1_0, pp_44_23, sh_44, sh_52, vi_0, vi_1]
      refine c_Mod_in ?_
      simp only [cp_kk, cp_vc, cp_vs, cp_jm, cp_ent_en, cp_en_int, cp_en_ref, cp_en_ret, cp_en_long, cp_en_nil, cp_s1_at, cp_s2_at, cp_nl_int, cp_nl_ref, cp_nl_long, cp_nl_none, cp_pop_0, cp_pop_s, reduceIte, if_true, if_false, Bool.false_eq_true, Bool.true_eq_false, false_implies, implies_true, forall_const, true_implies, true_and, and_true, and_self, true_or, or_true, false_or, or_false, Value.category, List.length_cons, List.length_nil, Option.toList_some, Option.toList_none, List.cons_append, List.nil_append, List.append_nil, Prod.mk.injEq, Nat.add_zero, Nat.zero_add, Nat.reduceAdd, Nat.reduceSub, Nat.reduceEqDiff, Nat.reduceLeDiff, Nat.reduceLT, Nat.le_refl, beq_self_eq_true, Nat.reduceBEq, ne_eq, not_true_eq_false, not_false_eq_true, Int32.reduceAdd, Int32.reduceSub, Int32.reduceMul, Int32.reduceLE, Int32.reduceLT, Int32.reduceToNatClampNeg, b01_0, b01_1, ne_2_0, ne_3_0, ne_4_0, ne_5_0, ne_6_0, ne_m1_0, ne_m2_0, b01_01, b01_n, lt_m2, lt_m1, le_m2, le_m1, Classical.not_not, Bool.or_false, Bool.false_or, Bool.true_or, Bool.or_true, j_Mod_comesAt_0, b_Mod_comesAt_0, j_Mod_comesAt_20, b_Mod_comesAt_20, j_Mod_comesAt_53, b_Mod_comesAt_53, j_Mod_comesAt_58, b_Mod_comesAt_58, an_0, an_1, cl_0, cl_1, ne_0_1, ne_1_0, pp_44_23, sh_44, sh_52, vi_0, vi_1]
      by_cases hi : i < 0
      · simp only [hi, if_true, true_implies, not_true_eq_false, false_implies, and_true]
        refine c_Mod_no ?_
        simp only [cp_kk, cp_vc, cp_vs, cp_jm, cp_ent_en, cp_en_int, cp_en_ref, cp_en_ret, cp_en_long, cp_en_nil, cp_s1_at, cp_s2_at, cp_nl_int, cp_nl_ref, cp_nl_long, cp_nl_none, cp_pop_0, cp_pop_s, reduceIte, if_true, if_false, Bool.false_eq_true, Bool.true_eq_false, false_implies, implies_true, forall_const, true_implies, true_and, and_true, and_self, true_or, or_true, false_or, or_false, Value.category, List.length_cons, List.length_nil, Option.toList_some, Option.toList_none, List.cons_append, List.nil_append, List.append_nil, Prod.mk.injEq, Nat.add_zero, Nat.zero_add, Nat.reduceAdd, Nat.reduceSub, Nat.reduceEqDiff, Nat.reduceLeDiff, Nat.reduceLT, Nat.le_refl, beq_self_eq_true, Nat.reduceBEq, ne_eq, not_true_eq_false, not_false_eq_true, Int32.reduceAdd, Int32.reduceSub, Int32.reduceMul, Int32.reduceLE, Int32.reduceLT, Int32.reduceToNatClampNeg, b01_0, b01_1, ne_2_0, ne_3_0, ne_4_0, ne_5_0, ne_6_0, ne_m1_0, ne_m2_0, b01_01, b01_n, lt_m2, lt_m1, le_m2, le_m1, Classical.not_not, Bool.or_false, Bool.false_or, Bool.true_or, Bool.or_true, j_Mod_comesAt_0, b_Mod_comesAt_0, j_Mod_comesAt_20, b_Mod_comesAt_20, j_Mod_comesAt_53, b_Mod_comesAt_53, j_Mod_comesAt_58, b_Mod_comesAt_58, an_0, an_1, cl_0, cl_1, ne_0_1, ne_1_0, pp_44_23, sh_44, sh_52, vi_0, vi_1]
        refine h2 s c hs rfl (fun q => ?_)
        obtain ⟨-, k, rfl, hk⟩ := q
        exact nI_pos (by omega) hi
      · obtain ⟨j, hj, rfl⟩ := nI_of hi
        simp only [hi, if_false, in_cd (show card s < 1000 by omega) hj]
        by_cases hjc : card s ≤ j
        · simp only [hjc, if_true, true_implies, not_true_eq_false, false_implies, and_true]
          refine c_Mod_no ?_
          simp only [cp_kk, cp_vc, cp_vs, cp_jm, cp_ent_en, cp_en_int, cp_en_ref, cp_en_ret, cp_en_long, cp_en_nil, cp_s1_at, cp_s2_at, cp_nl_int, cp_nl_ref, cp_nl_long, cp_nl_none, cp_pop_0, cp_pop_s, reduceIte, if_true, if_false, Bool.false_eq_true, Bool.true_eq_false, false_implies, implies_true, forall_const, true_implies, true_and, and_true, and_self, true_or, or_true, false_or, or_false, Value.category, List.length_cons, List.length_nil, Option.toList_some, Option.toList_none, List.cons_append, List.nil_append, List.append_nil, Prod.mk.injEq, Nat.add_zero, Nat.zero_add, Nat.reduceAdd, Nat.reduceSub, Nat.reduceEqDiff, Nat.reduceLeDiff, Nat.reduceLT, Nat.le_refl, beq_self_eq_true, Nat.reduceBEq, ne_eq, not_true_eq_false, not_false_eq_true, Int32.reduceAdd, Int32.reduceSub, Int32.reduceMul, Int32.reduceLE, Int32.reduceLT, Int32.reduceToNatClampNeg, b01_0, b01_1, ne_2_0, ne_3_0, ne_4_0, ne_5_0, ne_6_0, ne_m1_0, ne_m2_0, b01_01, b01_n, lt_m2, lt_m1, le_m2, le_m1, Classical.not_not, Bool.or_false, Bool.false_or, Bool.true_or, Bool.or_true, j_Mod_comesAt_0, b_Mod_comesAt_0, j_Mod_comesAt_20, b_Mod_comesAt_20, j_Mod_comesAt_53, b_Mod_comesAt_53, j_Mod_comesAt_58, b_Mod_comesAt_58, an_0, an_1, cl_0, cl_1, ne_0_1, ne_1_0, pp_44_23, sh_44, sh_52, vi_0, vi_1]
          refine h2 s c hs rfl (fun q => ?_)
          obtain ⟨-, k, e, hk⟩ := q
          have := (nI_eq hj (by omega)).1 e
          omega
        · simp only [hjc, if_false, ne_1_0, not_false_eq_true, false_implies, true_implies, true_and]
          refine ⟨vin (by omega) (by omega), ?_⟩
          rw [ncl (by omega), od52]
          exact h1 s j c hs rfl b rfl (by omega)
  · refine c_Mod_no ?_
    simp only [cp_kk, cp_vc, cp_vs, cp_jm, cp_ent_en, cp_en_int, cp_en_ref, cp_en_ret, cp_en_long, cp_en_nil, cp_s1_at, cp_s2_at, cp_nl_int, cp_nl_ref, cp_nl_long, cp_nl_none, cp_pop_0, cp_pop_s, reduceIte, if_true, if_false, Bool.false_eq_true, Bool.true_eq_false, false_implies, implies_true, forall_const, true_implies, true_and, and_true, and_self, true_or, or_true, false_or, or_false, Value.category, List.length_cons, List.length_nil, Option.toList_some, Option.toList_none, List.cons_append, List.nil_append, List.append_nil, Prod.mk.injEq, Nat.add_zero, Nat.zero_add, Nat.reduceAdd, Nat.reduceSub, Nat.reduceEqDiff, Nat.reduceLeDiff, Nat.reduceLT, Nat.le_refl, beq_self_eq_true, Nat.reduceBEq, ne_eq, not_true_eq_false, not_false_eq_true, Int32.reduceAdd, Int32.reduceSub, Int32.reduceMul, Int32.reduceLE, Int32.reduceLT, Int32.reduceToNatClampNeg, b01_0, b01_1, ne_2_0, ne_3_0, ne_4_0, ne_5_0, ne_6_0, ne_m1_0, ne_m2_0, b01_01, b01_n, lt_m2, lt_m1, le_m2, le_m1, Classical.not_not, Bool.or_false, Bool.false_or, Bool.true_or, Bool.or_true, j_Mod_comesAt_0, b_Mod_comesAt_0, j_Mod_comesAt_20, b_Mod_comesAt_20, j_Mod_comesAt_53, b_Mod_comesAt_53, j_Mod_comesAt_58, b_Mod_comesAt_58, an_0, an_1, cl_0, cl_1, ne_0_1, ne_1_0, pp_44_23, sh_44, sh_52, vi_0, vi_1]
    exact h0 c
end Mod17
