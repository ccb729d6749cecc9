section Mod17
variable {g : cp_G} {d : Nat} {sh : cp_H} {I : cp_I} {J : cp_J} {P : cp_P} {Q : cp_QT} {t u r x : Nat}
/-! the reference's words by two memories that agree on its rows -/
theorem rn_c {M : cp_I} (h : ∀ j, M 47 j = I 47 j) : rn M = rn I := by funext b; unfold rn; rw [h, h]
theorem rt_c {M : cp_I} {ρ : Nat} (h : ∀ j, M ρ j = I ρ j) : rt M ρ = rt I ρ := by funext a b; exact h _
theorem rw_c {M : cp_I} (h : ∀ j, M 47 j = I 47 j) (h9 : ∀ j, M 49 j = I 49 j) (n : Nat) : rw_ M n 49 = rw_ I n 49 := by funext s; unfold rw_; rw [h, h, rt_c h9]
theorem rb_c {M : cp_I} (h : ∀ j, M 47 j = I 47 j) (h9 : ∀ j, M 49 j = I 49 j) (n : Nat) : rb M n 49 = rb I n 49 := by funext s; unfold rb; rw [rw_c h h9, rn_c h]
theorem rs_c {M : cp_I} (h : ∀ j, M 47 j = I 47 j) (h9 : ∀ j, M 49 j = I 49 j) (n : Nat) : rs M n 49 = rs I n 49 := by funext s; unfold rs; rw [rb_c h h9]
theorem rd_c {M : cp_I} (h : ∀ j, M 47 j = I 47 j) (h9 : ∀ j, M 49 j = I 49 j) (n b : Nat) : rd M n b = rd I n b := by funext s; unfold rd; rw [rw_c h h9, rn_c h]
theorem rk_c {M : cp_I} {ρ : Nat} (h : ∀ j, M ρ j = I ρ j) (n : Nat) : rk M n ρ = rk I n ρ := by funext i; unfold rk; rw [rt_c h]
/-- a memory with another row in a cell -/
def od (I : cp_I) (c : Nat) (O : Nat → Int32) : cp_I := fun a j => if a = c then O j else I a j
theorem od_self (I : cp_I) (c : Nat) : od I c (I c) = I := by
  funext a j
  by_cases h : a = c
  · subst h
    simp [od]
  · simp [od, h]
theorem od_o (I : cp_I) (c : Nat) (O : Nat → Int32) {a : Nat} (h : a ≠ c) (j : Nat) : od I c O a j = I a j := by simp [od, h]
theorem od_c (I : cp_I) (c : Nat) (O : Nat → Int32) (j : Nat) : od I c O c j = O j := by simp [od]
theorem od_u (I : cp_I) (c : Nat) (O : Nat → Int32) (k : Nat) (v : Int32) : cp_u (od I c O) c k v = od I c (upd O k v) := by
  funext a j
  unfold cp_u od upd
  by_cases h : a = c
  · by_cases h2 : j = k <;> simp [h, h2]
  · simp [h]
/-- a loop that ends with the first that will do -/
def lo {σ : Type} (f : Nat → σ → Bool × σ) : Nat → Nat → σ → Bool × σ
  | 0, _, a => (false, a)
  | m + 1, k, a => if (f k a).1 = true then f k a else lo f m (k + 1) (f k a).2
/-- an order to come in -/
def sp_or (S : Nat → Bool) (n set : Nat) : Nat → Nat → Nat → (Nat → Int32) → Bool × (Nat → Int32)
  | 0, come, _, O => (decide (come = set), O)
  | f + 1, come, k, O => if come = set then (true, O) else lo (fun b O => if ((set &&& (63 - come)).testBit b && S (come ||| 2 ^ b)) = true then sp_or S n set f (come ||| 2 ^ b) (k + 1) (upd O k (nI b)) else (false, O)) n 0 O
theorem card_or {come set b : Nat} (hc : come < 64) (hs : set < 64) (hb : b < 6) (hsub : come &&& set = come) (ht : (set &&& (63 - come)).testBit b = true) : card (come ||| 2 ^ b) = card come + 1 ∧ (come ||| 2 ^ b) &&& set = come ||| 2 ^ b := by
  have key : ∀ come : Nat, come < 64 → ∀ b : Nat, b < 6 → ∀ set : Nat, set < 64 → come &&& set = come → (set &&& (63 - come)).testBit b = true → card (come ||| 2 ^ b) = card come + 1 ∧ (come ||| 2 ^ b) &&& set = come ||| 2 ^ b := by decide +kernel
  exact key come hc b hb set hs hsub ht
theorem c_Mod_tryOrder {n set : Nat} (hn6 : n ≤ 6) (hn : I 47 4 = nI n) (hset : set < 64) : ∀ (f come k : Nat) (O : Nat → Int32) (Q : cp_QT), come < 64 → come &&& set = come → k = card come → card set ≤ card come + f →
    Q (some (.int (if (sp_or (rs I n 49) n set f come k O).1 = true then 1 else 0))) SH (od I 52 (sp_or (rs I n 49) n set f come k O).2) J (PP t u r x) →
    MW g false (d + 6 + f) 0 0 m_Mod_tryOrder [.ref 44, .int (nI set), .int (nI come), .int (nI k)] SH (od I 52 O) J (PP t u r x) Q := by
  intro f
  induction f with
  | zero =>
    intro come k O Q hc hsub hk hcard h
    have he : come = set := by
      rcases Nat.decEq come set with z | z
      · have := card_lt hc hset hsub z
        omega
      · exact z
    subst he
    refine MW.of ok_Mod_tryOrder (Nat.le_of_ble_eq_true rfl) ?_
    refine cp_run 30 (fun _ => false) ck_Mod_tryOrder ?_
    simp only [cp_vc, cp_vs, cp_jm, cp_ent_en, cp_en_int, cp_en_ref, cp_en_ret, cp_en_long, cp_en_nil, cp_s1_at, cp_s2_at, cp_nl_int, cp_nl_ref, cp_nl_long, cp_nl_none, cp_pop_0, cp_pop_s, reduceIte, if_true, if_false, Bool.false_eq_true, Bool.true_eq_false, false_implies, implies_true, forall_const, true_implies, true_and, and_true, and_self, true_or, or_true, false_or, or_false, Value.category, List.length_cons, List.length_nil, Option.toList_some, Option.toList_none, List.cons_append, List.nil_append, List.append_nil, Prod.mk.injEq, Nat.add_zero, Nat.zero_add, Nat.reduceAdd, Nat.reduceSub, Nat.reduceEqDiff, Nat.reduceLeDiff, Nat.reduceLT, Nat.le_refl, beq_self_eq_true, Nat.reduceBEq, ne_eq, not_true_eq_false, not_false_eq_true, Int32.reduceAdd, Int32.reduceSub, Int32.reduceMul, Int32.reduceLE, Int32.reduceLT, Int32.reduceToNatClampNeg, b01_0, b01_1, ne_2_0, ne_3_0, ne_4_0, ne_5_0, ne_6_0, ne_m1_0, ne_m2_0, b01_01, b01_n, lt_m2, lt_m1, le_m2, le_m1, Classical.not_not, j_Mod_tryOrder_0, b_Mod_tryOrder_0, j_Mod_tryOrder_7, b_Mod_tryOrder_7, j_Mod_tryOrder_10, b_Mod_tryOrder_10, j_Mod_tryOrder_54, b_Mod_tryOrder_54, j_Mod_tryOrder_81, b_Mod_tryOrder_81, j_Mod_tryOrder_87, b_Mod_tryOrder_87, an_0, an_1, an_4, cl_0, cl_1, cl_4, ne_0_1, ne_0_4, ne_0_m1, ne_1_0, ne_1_4, ne_1_m1, ne_4_0, ne_4_1, ne_4_m1, ne_m1_0, ne_m1_1, ne_m1_4, pp_44_15, pp_44_17, pp_44_23, sh_44, sh_47, sh_49, sh_52, vi_0, vi_1, vi_4]
    simp only [sp_or, decide_true, if_true] at h
    exact h
  | succ f ih =>
    intro come k O Q hc hsub hk hcard h
    have h47 : ∀ (O : Nat → Int32) j, od I 52 O 47 j = I 47 j := fun O j => od_o I 52 O (by omega) j
    have h49 : ∀ (O : Nat → Int32) j, od I 52 O 49 j = I 49 j := fun O j => od_o I 52 O (by omega) j
    rw [sp_or] at h
    refine MW.of ok_Mod_tryOrder (Nat.le_of_ble_eq_true rfl) ?_
    refine cp_run 30 (fun t => t == 10) ck_Mod_tryOrder ?_
    simp only [cp_vc, cp_vs, cp_jm, cp_ent_en, cp_en_int, cp_en_ref, cp_en_ret, cp_en_long, cp_en_nil, cp_s1_at, cp_s2_at, cp_nl_int, cp_nl_ref, cp_nl_long, cp_nl_none, cp_pop_0, cp_pop_s, reduceIte, if_true, if_false, Bool.false_eq_true, Bool.true_eq_false, false_implies, implies_true, forall_const, true_implies, true_and, and_true, and_self, true_or, or_true, false_or, or_false, Value.category, List.length_cons, List.length_nil, Option.toList_some, Option.toList_none, List.cons_append, List.nil_append, List.append_nil, Prod.mk.injEq, Nat.add_zero, Nat.zero_add, Nat.reduceAdd, Nat.reduceSub, Nat.reduceEqDiff, Nat.reduceLeDiff, Nat.reduceLT, Nat.le_refl, beq_self_eq_true, Nat.reduceBEq, ne_eq, not_true_eq_false, not_false_eq_true, Int32.reduceAdd, Int32.reduceSub, Int32.reduceMul, Int32.reduceLE, Int32.reduceLT, Int32.reduceToNatClampNeg, b01_0, b01_1, ne_2_0, ne_3_0, ne_4_0, ne_5_0, ne_6_0, ne_m1_0, ne_m2_0, b01_01, b01_n, lt_m2, lt_m1, le_m2, le_m1, Classical.not_not, j_Mod_tryOrder_0, b_Mod_tryOrder_0, j_Mod_tryOrder_7, b_Mod_tryOrder_7, j_Mod_tryOrder_10, b_Mod_tryOrder_10, j_Mod_tryOrder_54, b_Mod_tryOrder_54, j_Mod_tryOrder_81, b_Mod_tryOrder_81, j_Mod_tryOrder_87, b_Mod_tryOrder_87, an_0, an_1, an_4, cl_0, cl_1, cl_4, ne_0_1, ne_0_4, ne_0_m1, ne_1_0, ne_1_4, ne_1_m1, ne_4_0, ne_4_1, ne_4_m1, ne_m1_0, ne_m1_1, ne_m1_4, pp_44_15, pp_44_17, pp_44_23, sh_44, sh_47, sh_49, sh_52, vi_0, vi_1, vi_4, eqN (show come < 1000 by omega) (show set < 1000 by omega)]
    refine ⟨fun c => ?_, fun c => ?_⟩
    · rw [if_neg c] at h
      have hlt := card_lt hc hset hsub c
      have hcs := card_le hset
      have hand : set &&& (63 - come) < 64 := Nat.lt_of_le_of_lt Nat.and_le_left hset
      have inner : ∀ (m b : Nat) (O : Nat → Int32) (L : cp_Lo), b + m = n → L 0 = some (.ref 44) → L 1 = some (.int (nI set)) → L 2 = some (.int (nI come)) → L 3 = some (.int (nI k)) → L 4 = some (.int (nI b)) →
          Q (some (.int (if (lo (fun b O => if ((set &&& (63 - come)).testBit b && rs I n 49 (come ||| 2 ^ b)) = true then sp_or (rs I n 49) n set f (come ||| 2 ^ b) (k + 1) (upd O k (nI b)) else (false, O)) m b O).1 = true then 1 else 0))) SH (od I 52 (lo (fun b O => if ((set &&& (63 - come)).testBit b && rs I n 49 (come ||| 2 ^ b)) = true then sp_or (rs I n 49) n set f (come ||| 2 ^ b) (k + 1) (upd O k (nI b)) else (false, O)) m b O).2) J (PP t u r x) →
          RW g false (d + 6 + (f + 1)) 0 0 m_Mod_tryOrder 0 0 10 L [] SH (od I 52 O) J (PP t u r x) Q := by
        intro m
        induction m with
        | zero =>
          intro b O L hb l0 l1 l2 l3 l4 hq
          have c1 : nI n ≤ nI b := nI_le (by omega) (by omega)
          have e4 := h47 O 4
          rw [hn] at e4
          refine cp_run 60 (fun t => t == 10) ck_Mod_tryOrder ?_
          simp only [cp_vc, cp_vs, cp_jm, cp_ent_en, cp_en_int, cp_en_ref, cp_en_ret, cp_en_long, cp_en_nil, cp_s1_at, cp_s2_at, cp_nl_int, cp_nl_ref, cp_nl_long, cp_nl_none, cp_pop_0, cp_pop_s, reduceIte, if_true, if_false, Bool.false_eq_true, Bool.true_eq_false, false_implies, implies_true, forall_const, true_implies, true_and, and_true, and_self, true_or, or_true, false_or, or_false, Value.category, List.length_cons, List.length_nil, Option.toList_some, Option.toList_none, List.cons_append, List.nil_append, List.append_nil, Prod.mk.injEq, Nat.add_zero, Nat.zero_add, Nat.reduceAdd, Nat.reduceSub, Nat.reduceEqDiff, Nat.reduceLeDiff, Nat.reduceLT, Nat.le_refl, beq_self_eq_true, Nat.reduceBEq, ne_eq, not_true_eq_false, not_false_eq_true, Int32.reduceAdd, Int32.reduceSub, Int32.reduceMul, Int32.reduceLE, Int32.reduceLT, Int32.reduceToNatClampNeg, b01_0, b01_1, ne_2_0, ne_3_0, ne_4_0, ne_5_0, ne_6_0, ne_m1_0, ne_m2_0, b01_01, b01_n, lt_m2, lt_m1, le_m2, le_m1, Classical.not_not, j_Mod_tryOrder_0, b_Mod_tryOrder_0, j_Mod_tryOrder_7, b_Mod_tryOrder_7, j_Mod_tryOrder_10, b_Mod_tryOrder_10, j_Mod_tryOrder_54, b_Mod_tryOrder_54, j_Mod_tryOrder_81, b_Mod_tryOrder_81, j_Mod_tryOrder_87, b_Mod_tryOrder_87, an_0, an_1, an_4, cl_0, cl_1, cl_4, ne_0_1, ne_0_4, ne_0_m1, ne_1_0, ne_1_4, ne_1_m1, ne_4_0, ne_4_1, ne_4_m1, ne_m1_0, ne_m1_1, ne_m1_4, pp_44_15, pp_44_17, pp_44_23, sh_44, sh_47, sh_49, sh_52, vi_0, vi_1, vi_4, l0, l1, l2, l3, l4, e4, c1]
          simp only [lo, Bool.false_eq_true, if_false] at hq
          exact hq
        | succ m ihm =>
          intro b O L hb l0 l1 l2 l3 l4 hq
          have c1 : ¬ nI n ≤ nI b := nI_ge (by omega) (by omega)
          have hb6 : b < 6 := by omega
          have hpb := pow_lt64 hb6
          have e4 := h47 O 4
          rw [hn] at e4
          rw [lo] at hq
          have skip : ((set &&& (63 - come)).testBit b && rs I n 49 (come ||| 2 ^ b)) = false → RW g false (d + 6 + (f + 1)) 0 0 m_Mod_tryOrder 0 0 10 (cp_s1 L 4 (.int (nI (b + 1)))) [] SH (od I 52 O) J (PP t u r x) Q := by
            intro e
            simp only [e, Bool.false_eq_true, if_false] at hq
            refine ihm (b + 1) O _ (by omega) ?_ ?_ ?_ ?_ ?_ hq <;> simp [cp_s1_at, cp_nl_int, cp_nl_ref, l0, l1, l2, l3]
          refine cp_run 60 (fun t => t == 10) ck_Mod_tryOrder ?_
          simp only [cp_vc, cp_vs, cp_jm, cp_ent_en, cp_en_int, cp_en_ref, cp_en_ret, cp_en_long, cp_en_nil, cp_s1_at, cp_s2_at, cp_nl_int, cp_nl_ref, cp_nl_long, cp_nl_none, cp_pop_0, cp_pop_s, reduceIte, if_true, if_false, Bool.false_eq_true, Bool.true_eq_false, false_implies, implies_true, forall_const, true_implies, true_and, and_true, and_self, true_or, or_true, false_or, or_false, Value.category, List.length_cons, List.length_nil, Option.toList_some, Option.toList_none, List.cons_append, List.nil_append, List.append_nil, Prod.mk.injEq, Nat.add_zero, Nat.zero_add, Nat.reduceAdd, Nat.reduceSub, Nat.reduceEqDiff, Nat.reduceLeDiff, Nat.reduceLT, Nat.le_refl, beq_self_eq_true, Nat.reduceBEq, ne_eq, not_true_eq_false, not_false_eq_true, Int32.reduceAdd, Int32.reduceSub, Int32.reduceMul, Int32.reduceLE, Int32.reduceLT, Int32.reduceToNatClampNeg, b01_0, b01_1, ne_2_0, ne_3_0, ne_4_0, ne_5_0, ne_6_0, ne_m1_0, ne_m2_0, b01_01, b01_n, lt_m2, lt_m1, le_m2, le_m1, Classical.not_not, j_Mod_tryOrder_0, b_Mod_tryOrder_0, j_Mod_tryOrder_7, b_Mod_tryOrder_7, j_Mod_tryOrder_10, b_Mod_tryOrder_10, j_Mod_tryOrder_54, b_Mod_tryOrder_54, j_Mod_tryOrder_81, b_Mod_tryOrder_81, j_Mod_tryOrder_87, b_Mod_tryOrder_87, an_0, an_1, an_4, cl_0, cl_1, cl_4, ne_0_1, ne_0_4, ne_0_m1, ne_1_0, ne_1_4, ne_1_m1, ne_4_0, ne_4_1, ne_4_m1, ne_m1_0, ne_m1_1, ne_m1_4, pp_44_15, pp_44_17, pp_44_23, sh_44, sh_47, sh_49, sh_52, vi_0, vi_1, vi_4, l0, l1, l2, l3, l4, e4, c1, andn2_nI hset hc]
          refine c_Mod_hb hand (by omega) ?_
          simp only [cp_kk, cp_vc, cp_vs, cp_jm, cp_ent_en, cp_en_int, cp_en_ref, cp_en_ret, cp_en_long, cp_en_nil, cp_s1_at, cp_s2_at, cp_nl_int, cp_nl_ref, cp_nl_long, cp_nl_none, cp_pop_0, cp_pop_s, reduceIte, if_true, if_false, Bool.false_eq_true, Bool.true_eq_false, false_implies, implies_true, forall_const, true_implies, true_and, and_true, and_self, true_or, or_true, false_or, or_false, Value.category, List.length_cons, List.length_nil, Option.toList_some, Option.toList_none, List.cons_append, List.nil_append, List.append_nil, Prod.mk.injEq, Nat.add_zero, Nat.zero_add, Nat.reduceAdd, Nat.reduceSub, Nat.reduceEqDiff, Nat.reduceLeDiff, Nat.reduceLT, Nat.le_refl, beq_self_eq_true, Nat.reduceBEq, ne_eq, not_true_eq_false, not_false_eq_true, Int32.reduceAdd, Int32.reduceSub, Int32.reduceMul, Int32.reduceLE, Int32.reduceLT, Int32.reduceToNatClampNeg, b01_0, b01_1, ne_2_0, ne_3_0, ne_4_0, ne_5_0, ne_6_0, ne_m1_0, ne_m2_0, b01_01, b01_n, lt_m2, lt_m1, le_m2, le_m1, Classical.not_not, Bool.or_false, Bool.false_or, Bool.true_or, Bool.or_true, j_Mod_tryOrder_0, b_Mod_tryOrder_0, j_Mod_tryOrder_7, b_Mod_tryOrder_7, j_Mod_tryOrder_10, b_Mod_tryOrder_10, j_Mod_tryOrder_54, b_Mod_tryOrder_54, j_Mod_tryOrder_81, b_Mod_tryOrder_81, j_Mod_tryOrder_87, b_Mod_tryOrder_87, an_0, an_1, an_4, cl_0, cl_1, cl_4, ne_0_1, ne_0_4, ne_0_m1, ne_1_0, ne_1_4, ne_1_m1, ne_4_0, ne_4_1, ne_4_m1, ne_m1_0, ne_m1_1, ne_m1_4, pp_44_15, pp_44_17, pp_44_23, sh_44, sh_47, sh_49, sh_52, vi_0, vi_1, vi_4, l0, l1, l2, l3, l4, nI_1, sh1 (show b < 8 by omega), or_nI hc hpb]
          refine ⟨fun b1 => skip (by simp [b1]), fun b1 => ?_⟩
          obtain ⟨k1, k2⟩ := card_or hc hset hb6 hsub b1
          refine c_Mod_isSnug (d := d + 1 + f) sh_49 (or_lt64 hc hpb) hn6 (by rw [h47]; exact hn) ?_
          rw [rs_c (h47 O) (h49 O)]
          simp only [cp_kk, cp_vc, cp_vs, cp_jm, cp_ent_en, cp_en_int, cp_en_ref, cp_en_ret, cp_en_long, cp_en_nil, cp_s1_at, cp_s2_at, cp_nl_int, cp_nl_ref, cp_nl_long, cp_nl_none, cp_pop_0, cp_pop_s, reduceIte, if_true, if_false, Bool.false_eq_true, Bool.true_eq_false, false_implies, implies_true, forall_const, true_implies, true_and, and_true, and_self, true_or, or_true, false_or, or_false, Value.category, List.length_cons, List.length_nil, Option.toList_some, Option.toList_none, List.cons_append, List.nil_append, List.append_nil, Prod.mk.injEq, Nat.add_zero, Nat.zero_add, Nat.reduceAdd, Nat.reduceSub, Nat.reduceEqDiff, Nat.reduceLeDiff, Nat.reduceLT, Nat.le_refl, beq_self_eq_true, Nat.reduceBEq, ne_eq, not_true_eq_false, not_false_eq_true, Int32.reduceAdd, Int32.reduceSub, Int32.reduceMul, Int32.reduceLE, Int32.reduceLT, Int32.reduceToNatClampNeg, b01_0, b01_1, ne_2_0, ne_3_0, ne_4_0, ne_5_0, ne_6_0, ne_m1_0, ne_m2_0, b01_01, b01_n, lt_m2, lt_m1, le_m2, le_m1, Classical.not_not, Bool.or_false, Bool.false_or, Bool.true_or, Bool.or_true, j_Mod_tryOrder_0, b_Mod_tryOrder_0, j_Mod_tryOrder_7, b_Mod_tryOrder_7, j_Mod_tryOrder_10, b_Mod_tryOrder_10, j_Mod_tryOrder_54, b_Mod_tryOrder_54, j_Mod_tryOrder_81, b_Mod_tryOrder_81, j_Mod_tryOrder_87, b_Mod_tryOrder_87, an_0, an_1, an_4, cl_0, cl_1, cl_4, ne_0_1, ne_0_4, ne_0_m1, ne_1_0, ne_1_4, ne_1_m1, ne_4_0, ne_4_1, ne_4_m1, ne_m1_0, ne_m1_1, ne_m1_4, pp_44_15, pp_44_17, pp_44_23, sh_44, sh_47, sh_49, sh_52, vi_0, vi_1, vi_4, l0, l1, l2, l3, l4, nI_1, sh1 (show b < 8 by omega), or_nI hc hpb, vin (show k < 6 by omega) (by omega), ncl (show k < 1000 by omega), od_u]
          trace_state
          sorry
      sorry
    · rw [if_pos c] at h
      exact h
end Mod17
