section Bath2
variable {g : cp_G} {d : Nat} {sh : cp_H} {I : cp_I} {J : cp_J} {P : cp_P} {Q : cp_QT} {t u r x n : Nat}
/-! the measuring of all companies -/
theorem fo_cong {α : Type} {f h : Nat → α → α} : ∀ (m k : Nat) (a : α), (∀ i a, k ≤ i → i < k + m → f i a = h i a) → fo f m k a = fo h m k a
  | 0, _, _, _ => rfl
  | m + 1, k, a, e => by
    rw [fo, fo, e k a (by omega) (by omega)]
    exact fo_cong m (k + 1) _ (fun i a h1 h2 => e i a (by omega) (by omega))
theorem fo_s {α : Type} {f : Nat → α → α} : ∀ (m k : Nat) (a : α), fo f (m + 1) k a = f (k + m) (fo f m k a)
  | 0, k, a => rfl
  | m + 1, k, a => by
    rw [fo, fo_s m (k + 1), fo, show k + 1 + m = k + (m + 1) by omega]
theorem fo_id {α : Type} {f : Nat → α → α} : ∀ (m k : Nat) (a : α), (∀ i a, k ≤ i → i < k + m → f i a = a) → fo f m k a = a
  | 0, _, _, _ => rfl
  | m + 1, k, a, e => by
    rw [fo, e k a (by omega) (by omega)]
    exact fo_id m (k + 1) _ (fun i a h1 h2 => e i a (by omega) (by omega))
/-- a sum begun with z -/
theorem fo_sum {p : Nat → Bool} {w : Nat → Int32} : ∀ (m k : Nat) (z y : Int32), fo (fun b z => if p b = true then z + w b else z) m k (z + y) = z + fo (fun b z => if p b = true then z + w b else z) m k y
  | 0, _, _, _ => rfl
  | m + 1, k, z, y => by
    rw [fo, fo]
    by_cases h : p k = true
    · rw [if_pos h, if_pos h, Int32.add_assoc]
      exact fo_sum m (k + 1) z (y + w k)
    · rw [if_neg h, if_neg h]
      exact fo_sum m (k + 1) z y
theorem tb_lt {s b i : Nat} (hs : s < 2 ^ b) (hi : b ≤ i) : s.testBit i = false := Nat.testBit_lt_two_pow (Nat.lt_of_lt_of_le hs (Nat.pow_le_pow_right (by omega) hi))
theorem tb_or {o b i : Nat} : (2 ^ b ||| o).testBit i = (decide (b = i) || o.testBit i) := by rw [Nat.testBit_or, Nat.testBit_two_pow]
theorem sum_cong {b : Nat} {c : Int32} {ti : sp_T} {s s' : Nat} {w : Int32} (h : ∀ i, i < b → s.testBit i = s'.testBit i) : sp_sum b c ti s w = sp_sum b c ti s' w := by
  unfold sp_sum
  refine fo_cong b 0 w (fun a z _ ha => ?_)
  refine fo_cong a 0 z (fun i y _ hi => ?_)
  unfold sp_row
  rw [h a (by omega), h i (by omega)]
theorem sum_le {c : Int32} {ti : sp_T} {s : Nat} {w : Int32} {b : Nat} (hs : s < 2 ^ b) : ∀ m, sp_sum (b + m) c ti s w = sp_sum b c ti s w
  | 0 => rfl
  | m + 1 => by
    have ih := sum_le (c := c) (ti := ti) (w := w) hs m
    unfold sp_sum at ih ⊢
    rw [← Nat.add_assoc, fo_s, ih]
    refine fo_id _ _ _ (fun i a _ _ => ?_)
    unfold sp_row
    rw [Nat.zero_add, tb_lt hs (by omega)]
    simp
/-- the warmth that b adds to others -/
def sp_jn (c : Int32) (ti : sp_T) (b o n : Nat) : Int32 := fo (fun i z => if o.testBit i = true then z + sp_pr c ti b i else z) n 0 0
theorem jn_le {c : Int32} {ti : sp_T} {b o : Nat} (ho : o < 2 ^ b) : ∀ m, sp_jn c ti b o (b + m) = sp_jn c ti b o b
  | 0 => rfl
  | m + 1 => by
    have ih := jn_le (c := c) (ti := ti) ho m
    unfold sp_jn at ih ⊢
    rw [← Nat.add_assoc, fo_s, ih, Nat.zero_add, tb_lt ho (by omega)]
    simp
theorem sum_join {c : Int32} {ti : sp_T} {b o : Nat} {w : Int32} (hb : b < n) (ho : o < 2 ^ b) : sp_sum n c ti (2 ^ b ||| o) w = sp_sum n c ti o w + sp_jn c ti b o n := by
  have hs : 2 ^ b ||| o < 2 ^ (b + 1) := Nat.or_lt_two_pow (Nat.pow_lt_pow_right (by omega) (by omega)) (Nat.lt_trans ho (Nat.pow_lt_pow_right (by omega) (by omega)))
  obtain ⟨m, rfl⟩ : ∃ m, n = b + 1 + m := ⟨n - (b + 1), by omega⟩
  rw [sum_le hs m, Nat.add_assoc b 1 m, sum_le ho (1 + m), jn_le ho (1 + m)]
  have e1 : sp_sum (b + 1) c ti (2 ^ b ||| o) w = fo (sp_row c ti (2 ^ b ||| o) b) b 0 (sp_sum b c ti (2 ^ b ||| o) w) := by
    unfold sp_sum
    rw [fo_s, Nat.zero_add]
  have e2 : sp_sum b c ti (2 ^ b ||| o) w = sp_sum b c ti o w := sum_cong (fun i hi => by rw [tb_or]; simp [show ¬ b = i by omega])
  rw [e1, e2]
  have e3 : fo (sp_row c ti (2 ^ b ||| o) b) b 0 (sp_sum b c ti o w) = fo (fun i z => if o.testBit i = true then z + sp_pr c ti b i else z) b 0 (sp_sum b c ti o w) := by
    refine fo_cong b 0 _ (fun i z _ hi => ?_)
    unfold sp_row
    rw [tb_or, tb_or]
    simp [show ¬ b = i by omega]
  rw [e3]
  have := fo_sum (p := fun i => o.testBit i) (w := fun i => sp_pr c ti b i) b 0 (sp_sum b c ti o w) 0
  rw [Int32.add_zero] at this
  exact this
theorem gr_join {nd : Nat → Int32} {b o : Nat} (hb : b < n) (ho : o < 2 ^ b) : fo (sp_gr nd (2 ^ b ||| o)) n 0 0 = if nd b ≤ fo (sp_gr nd o) n 0 0 then fo (sp_gr nd o) n 0 0 else nd b := by
  have le : ∀ (s b : Nat) (z : Int32), s < 2 ^ b → ∀ m, fo (sp_gr nd s) (b + m) 0 z = fo (sp_gr nd s) b 0 z := by
    intro s b z hs m
    induction m with
    | zero => rfl
    | succ m ih =>
      rw [← Nat.add_assoc, fo_s, ih, Nat.zero_add]
      unfold sp_gr
      rw [tb_lt hs (by omega)]
      simp
  have hs : 2 ^ b ||| o < 2 ^ (b + 1) := Nat.or_lt_two_pow (Nat.pow_lt_pow_right (by omega) (by omega)) (Nat.lt_trans ho (Nat.pow_lt_pow_right (by omega) (by omega)))
  obtain ⟨m, rfl⟩ : ∃ m, n = b + 1 + m := ⟨n - (b + 1), by omega⟩
  rw [le _ (b + 1) 0 hs m, Nat.add_assoc b 1 m, le o b 0 ho (1 + m), fo_s, Nat.zero_add]
  have e : fo (sp_gr nd (2 ^ b ||| o)) b 0 0 = fo (sp_gr nd o) b 0 0 := by
    refine fo_cong b 0 _ (fun i z _ hi => ?_)
    unfold sp_gr
    rw [tb_or]
    simp [show ¬ b = i by omega]
  rw [e]
  show sp_gr nd (2 ^ b ||| o) b _ = _
  unfold sp_gr
  rw [tb_or]
  simp
theorem lp_Bath_join {b o m : Nat} (hc : cT I t n) (hb : b < n) (ho : o < 2 ^ b) (hm : I 15 2 = nI m) : ∀ (k i : Nat) (z : Int32) (L : cp_Lo), i + k = n → L 0 = some (.ref 15) → L 1 = some (.int (nI b)) → L 2 = some (.int (nI o)) → L 3 = some (.int z) → L 4 = some (.int (nI i)) →
    Q (some (.int (fo (fun i z => if o.testBit i = true then z + sp_pr (I t 1) (ctm I t m) b i else z) k i z))) SH I J (PP t u r x) → RW g false (d + 3) 0 0 m_Bath_warmthOfJoining 0 0 5 L [] SH I J (PP t u r x) Q := by
  obtain ⟨ht, hn6, hn, he⟩ := id hc
  have ho6 : o < 64 := Nat.lt_trans ho (pow_lt64 (by omega))
  intro k
  induction k with
  | zero =>
    intro i z L hi l0 l1 l2 l3 l4 hq
    have c1 : nI n ≤ nI i := nI_le (by omega) (by omega)
    refine cp_run 20 (fun t => t == 5) ck_Bath_warmthOfJoining ?_
    simp only [cp_vc, cp_vs, cp_jm, cp_ent_en, cp_en_int, cp_en_ref, cp_en_ret, cp_en_long, cp_en_nil, cp_s1_at, cp_s2_at, cp_nl_int, cp_nl_ref, cp_nl_long, cp_nl_none, cp_pop_0, cp_pop_s, reduceIte, if_true, if_false, Bool.false_eq_true, Bool.true_eq_false, false_implies, implies_true, forall_const, true_implies, true_and, and_true, and_self, true_or, or_true, false_or, or_false, Value.category, List.length_cons, List.length_nil, Option.toList_some, Option.toList_none, List.cons_append, List.nil_append, List.append_nil, Prod.mk.injEq, Nat.add_zero, Nat.zero_add, Nat.reduceAdd, Nat.reduceSub, Nat.reduceEqDiff, Nat.reduceLeDiff, Nat.reduceLT, Nat.le_refl, beq_self_eq_true, Nat.reduceBEq, ne_eq, not_true_eq_false, not_false_eq_true, Int32.reduceAdd, Int32.reduceSub, Int32.reduceMul, Int32.reduceLE, Int32.reduceLT, Int32.reduceToNatClampNeg, b01_0, b01_1, ne_2_0, ne_3_0, ne_4_0, ne_5_0, ne_6_0, ne_m1_0, ne_m2_0, b01_01, b01_n, lt_m2, lt_m1, le_m2, le_m1, Classical.not_not, j_Bath_warmthOfJoining_0, b_Bath_warmthOfJoining_0, j_Bath_warmthOfJoining_5, b_Bath_warmthOfJoining_5, j_Bath_warmthOfJoining_52, b_Bath_warmthOfJoining_52, j_Bath_warmthOfJoining_54, b_Bath_warmthOfJoining_54, j_Bath_warmthOfJoining_56, b_Bath_warmthOfJoining_56, j_Bath_warmthOfJoining_62, b_Bath_warmthOfJoining_62, an_0, an_1, cl_0, cl_1, ne_0_1, ne_1_0, pp_15_0, sh_15, vi_0, vi_1, l0, l1, l2, l3, l4, pp_15_0, sT0 ht, sT1 ht, sT2 ht, sT3 ht, sT4 ht, sT5 ht, sT6 ht, sT7 ht, sT8 ht, sT9 ht, pT1 ht, pT2 ht, pT3 ht, pT4 ht, pT5 ht, pT6 ht, pT7 ht, pT8 ht, pT9 ht, hn, c1]
    exact hq
  | succ k ih =>
    intro i z L hi l0 l1 l2 l3 l4 hq
    have c1 : ¬ nI n ≤ nI i := nI_ge (by omega) (by omega)
    rw [fo] at hq
    refine cp_run 60 (fun t => t == 5) ck_Bath_warmthOfJoining ?_
    simp only [cp_vc, cp_vs, cp_jm, cp_ent_en, cp_en_int, cp_en_ref, cp_en_ret, cp_en_long, cp_en_nil, cp_s1_at, cp_s2_at, cp_nl_int, cp_nl_ref, cp_nl_long, cp_nl_none, cp_pop_0, cp_pop_s, reduceIte, if_true, if_false, Bool.false_eq_true, Bool.true_eq_false, false_implies, implies_true, forall_const, true_implies, true_and, and_true, and_self, true_or, or_true, false_or, or_false, Value.category, List.length_cons, List.length_nil, Option.toList_some, Option.toList_none, List.cons_append, List.nil_append, List.append_nil, Prod.mk.injEq, Nat.add_zero, Nat.zero_add, Nat.reduceAdd, Nat.reduceSub, Nat.reduceEqDiff, Nat.reduceLeDiff, Nat.reduceLT, Nat.le_refl, beq_self_eq_true, Nat.reduceBEq, ne_eq, not_true_eq_false, not_false_eq_true, Int32.reduceAdd, Int32.reduceSub, Int32.reduceMul, Int32.reduceLE, Int32.reduceLT, Int32.reduceToNatClampNeg, b01_0, b01_1, ne_2_0, ne_3_0, ne_4_0, ne_5_0, ne_6_0, ne_m1_0, ne_m2_0, b01_01, b01_n, lt_m2, lt_m1, le_m2, le_m1, Classical.not_not, j_Bath_warmthOfJoining_0, b_Bath_warmthOfJoining_0, j_Bath_warmthOfJoining_5, b_Bath_warmthOfJoining_5, j_Bath_warmthOfJoining_52, b_Bath_warmthOfJoining_52, j_Bath_warmthOfJoining_54, b_Bath_warmthOfJoining_54, j_Bath_warmthOfJoining_56, b_Bath_warmthOfJoining_56, j_Bath_warmthOfJoining_62, b_Bath_warmthOfJoining_62, an_0, an_1, cl_0, cl_1, ne_0_1, ne_1_0, pp_15_0, sh_15, vi_0, vi_1, l0, l1, l2, l3, l4, pp_15_0, sT0 ht, sT1 ht, sT2 ht, sT3 ht, sT4 ht, sT5 ht, sT6 ht, sT7 ht, sT8 ht, sT9 ht, pT1 ht, pT2 ht, pT3 ht, pT4 ht, pT5 ht, pT6 ht, pT7 ht, pT8 ht, pT9 ht, hn, c1, hb_0 ho6 (show i < 8 by omega), nI_1]
    refine ⟨fun c => ?_, fun c => ?_⟩
    · simp only [c, Bool.false_eq_true, if_false] at hq
      refine ih (i + 1) z _ (by omega) ?_ ?_ ?_ ?_ ?_ hq <;> simp [cp_s1_at, cp_nl_ref, cp_nl_int, l0, l1, l2, l3]
    · have c' : o.testBit i = true := by simpa using c
      have hib : i < b := by
        rcases Nat.lt_or_ge i b with q | q
        · exact q
        · rw [tb_lt ho q] at c'
          cases c'
      rw [if_pos c'] at hq
      refine c_Bath_tie ht (by omega) (by omega) (by omega) hm ?_
      simp only [cp_kk, cp_vc, cp_vs, cp_jm, cp_ent_en, cp_en_int, cp_en_ref, cp_en_ret, cp_en_long, cp_en_nil, cp_s1_at, cp_s2_at, cp_nl_int, cp_nl_ref, cp_nl_long, cp_nl_none, cp_pop_0, cp_pop_s, reduceIte, if_true, if_false, Bool.false_eq_true, Bool.true_eq_false, false_implies, implies_true, forall_const, true_implies, true_and, and_true, and_self, true_or, or_true, false_or, or_false, Value.category, List.length_cons, List.length_nil, Option.toList_some, Option.toList_none, List.cons_append, List.nil_append, List.append_nil, Prod.mk.injEq, Nat.add_zero, Nat.zero_add, Nat.reduceAdd, Nat.reduceSub, Nat.reduceEqDiff, Nat.reduceLeDiff, Nat.reduceLT, Nat.le_refl, beq_self_eq_true, Nat.reduceBEq, ne_eq, not_true_eq_false, not_false_eq_true, Int32.reduceAdd, Int32.reduceSub, Int32.reduceMul, Int32.reduceLE, Int32.reduceLT, Int32.reduceToNatClampNeg, b01_0, b01_1, ne_2_0, ne_3_0, ne_4_0, ne_5_0, ne_6_0, ne_m1_0, ne_m2_0, b01_01, b01_n, lt_m2, lt_m1, le_m2, le_m1, Classical.not_not, Bool.or_false, Bool.false_or, Bool.true_or, Bool.or_true, j_Bath_warmthOfJoining_0, b_Bath_warmthOfJoining_0, j_Bath_warmthOfJoining_5, b_Bath_warmthOfJoining_5, j_Bath_warmthOfJoining_52, b_Bath_warmthOfJoining_52, j_Bath_warmthOfJoining_54, b_Bath_warmthOfJoining_54, j_Bath_warmthOfJoining_56, b_Bath_warmthOfJoining_56, j_Bath_warmthOfJoining_62, b_Bath_warmthOfJoining_62, an_0, an_1, cl_0, cl_1, ne_0_1, ne_1_0, pp_15_0, sh_15, vi_0, vi_1, l0, l1, l2, l3, l4, pp_15_0, sT0 ht, sT1 ht, sT2 ht, sT3 ht, sT4 ht, sT5 ht, sT6 ht, sT7 ht, sT8 ht, sT9 ht, pT1 ht, pT2 ht, pT3 ht, pT4 ht, pT5 ht, pT6 ht, pT7 ht, pT8 ht, pT9 ht, nI_1]
      unfold sp_pr at hq
      refine ⟨fun c2 => ?_, fun c2 => ?_⟩
      · rw [if_neg c2] at hq
        refine ih (i + 1) _ _ (by omega) ?_ ?_ ?_ ?_ ?_ hq <;> simp [cp_s1_at, cp_nl_ref, cp_nl_int, l0, l1, l2]
      · rw [if_pos c2] at hq
        refine ih (i + 1) _ _ (by omega) ?_ ?_ ?_ ?_ ?_ hq <;> simp [cp_s1_at, cp_nl_ref, cp_nl_int, l0, l1, l2]
theorem c_Bath_join {b o m : Nat} (hc : cT I t n) (hb : b < n) (ho : o < 2 ^ b) (hm : I 15 2 = nI m) (h : Q (some (.int (sp_jn (I t 1) (ctm I t m) b o n))) SH I J (PP t u r x)) : MW g false (d + 3) 0 0 m_Bath_warmthOfJoining [.ref 15, .int (nI b), .int (nI o)] SH I J (PP t u r x) Q := by
  refine MW.of ok_Bath_warmthOfJoining (Nat.le_of_ble_eq_true rfl) ?_
  refine cp_run 20 (fun t => t == 5) ck_Bath_warmthOfJoining ?_
  simp only [cp_vc, cp_vs, cp_jm, cp_ent_en, cp_en_int, cp_en_ref, cp_en_ret, cp_en_long, cp_en_nil, cp_s1_at, cp_s2_at, cp_nl_int, cp_nl_ref, cp_nl_long, cp_nl_none, cp_pop_0, cp_pop_s, reduceIte, if_true, if_false, Bool.false_eq_true, Bool.true_eq_false, false_implies, implies_true, forall_const, true_implies, true_and, and_true, and_self, true_or, or_true, false_or, or_false, Value.category, List.length_cons, List.length_nil, Option.toList_some, Option.toList_none, List.cons_append, List.nil_append, List.append_nil, Prod.mk.injEq, Nat.add_zero, Nat.zero_add, Nat.reduceAdd, Nat.reduceSub, Nat.reduceEqDiff, Nat.reduceLeDiff, Nat.reduceLT, Nat.le_refl, beq_self_eq_true, Nat.reduceBEq, ne_eq, not_true_eq_false, not_false_eq_true, Int32.reduceAdd, Int32.reduceSub, Int32.reduceMul, Int32.reduceLE, Int32.reduceLT, Int32.reduceToNatClampNeg, b01_0, b01_1, ne_2_0, ne_3_0, ne_4_0, ne_5_0, ne_6_0, ne_m1_0, ne_m2_0, b01_01, b01_n, lt_m2, lt_m1, le_m2, le_m1, Classical.not_not, j_Bath_warmthOfJoining_0, b_Bath_warmthOfJoining_0, j_Bath_warmthOfJoining_5, b_Bath_warmthOfJoining_5, j_Bath_warmthOfJoining_52, b_Bath_warmthOfJoining_52, j_Bath_warmthOfJoining_54, b_Bath_warmthOfJoining_54, j_Bath_warmthOfJoining_56, b_Bath_warmthOfJoining_56, j_Bath_warmthOfJoining_62, b_Bath_warmthOfJoining_62, an_0, an_1, cl_0, cl_1, ne_0_1, ne_1_0, pp_15_0, sh_15, vi_0, vi_1]
  refine lp_Bath_join hc hb ho hm n 0 0 _ (by omega) ?_ ?_ ?_ ?_ ?_ h <;> simp [cp_s1_at, cp_ent_en, cp_en_ref, cp_en_int, cp_nl_ref, cp_nl_int, nI_0]
/-- memories that differ in the measures only -/
def mF (I M : cp_I) : Prop := ∀ a j, ¬ (26 ≤ a ∧ a ≤ 29) → M a j = I a j
theorem mF_refl (I : cp_I) : mF I I := fun _ _ _ => rfl
theorem mF_u {M : cp_I} (h : mF I M) {c k : Nat} {v : Int32} (hc : 26 ≤ c ∧ c ≤ 29) : mF I (cp_u M c k v) := by
  intro a j ha
  rw [cp_u_at, if_neg (by omega)]
  exact h a j ha
theorem mF_tr {M M' : cp_I} (h : mF I M) (h' : mF M M') : mF I M' := fun a j ha => by rw [h' a j ha, h a j ha]
theorem mF_t {M : cp_I} (h : mF I M) (ht : tk t) {k : Nat} (hk : k ≤ 9) (j : Nat) : M (t + k) j = I (t + k) j := h _ _ (by rcases ht with rfl | rfl <;> omega)
theorem mF_cT {M : cp_I} (h : mF I M) (hc : cT I t n) : cT M t n := by
  obtain ⟨ht, hn6, hn, he⟩ := hc
  refine ⟨ht, hn6, by have := mF_t h ht (k := 0) (by omega) 4; rw [Nat.add_zero] at this; rw [this]; exact hn, fun b hb => ?_⟩
  rw [mF_t h ht (by omega)]
  exact he b hb
theorem mF_ctm {M : cp_I} (h : mF I M) (ht : tk t) (m : Nat) : ctm M t m = ctm I t m := by
  funext a b
  unfold ctm
  rw [mF_t h ht (by omega)]
theorem mF_cn {M : cp_I} (h : mF I M) (ht : tk t) : cn M t = cn I t := by
  funext b
  unfold cn
  rw [mF_t h ht (by omega), mF_t h ht (by omega)]
theorem mF_0 {M : cp_I} (h : mF I M) (ht : tk t) (j : Nat) : M t j = I t j := mF_t h ht (k := 0) (by omega) j
def cK (I : cp_I) (t n m b : Nat) : Nat := sp_set n (fun o => !decide (o = b) && decide (0 < ctm I t m b o))
def cF (I : cp_I) (t n m b : Nat) : Nat := sp_set n (fun o => !decide (o = b) && decide (ctm I t m b o < 0))
theorem lp_Bath_sort {b m : Nat} (hc : cT I t n) (hb : b < n) (hm : I 15 2 = nI m) : ∀ (k i y z : Nat) (M : cp_I) (L : cp_Lo), i + k = n → y < 64 → z < 64 → mF I M → M 26 b = nI y → M 27 b = nI z → (∀ c j, ¬ (c = 26 ∧ j = b) → ¬ (c = 27 ∧ j = b) → M c j = I c j) → L 0 = some (.ref 15) → L 1 = some (.int (nI b)) → L 2 = some (.int (nI i)) →
    (∀ M', (∀ c j, ¬ (c = 26 ∧ j = b) → ¬ (c = 27 ∧ j = b) → M' c j = I c j) → M' 26 b = nI (fo (fun o z => if (!decide (o = b) && decide (0 < ctm I t m b o)) = true then z ||| 2 ^ o else z) k i y) → M' 27 b = nI (fo (fun o z => if (!decide (o = b) && decide (ctm I t m b o < 0)) = true then z ||| 2 ^ o else z) k i z) → Q none SH M' J (PP t u r x)) →
    RW g false (d + 3) 0 0 m_Bath_sortTies 0 0 16 L [] SH M J (PP t u r x) Q := by
  obtain ⟨ht, hn6, hn, he⟩ := id hc
  intro k
  induction k with
  | zero =>
    intro i y z M L hi hy hz hM e26 e27 eM l0 l1 l2 hq
    have c1 : nI n ≤ nI i := nI_le (by omega) (by omega)
    have hnM : M t 4 = nI n := by rw [mF_0 hM ht]; exact hn
    refine cp_run 20 (fun t => t == 16) ck_Bath_sortTies ?_
    simp only [cp_vc, cp_vs, cp_jm, cp_ent_en, cp_en_int, cp_en_ref, cp_en_ret, cp_en_long, cp_en_nil, cp_s1_at, cp_s2_at, cp_nl_int, cp_nl_ref, cp_nl_long, cp_nl_none, cp_pop_0, cp_pop_s, reduceIte, if_true, if_false, Bool.false_eq_true, Bool.true_eq_false, false_implies, implies_true, forall_const, true_implies, true_and, and_true, and_self, true_or, or_true, false_or, or_false, Value.category, List.length_cons, List.length_nil, Option.toList_some, Option.toList_none, List.cons_append, List.nil_append, List.append_nil, Prod.mk.injEq, Nat.add_zero, Nat.zero_add, Nat.reduceAdd, Nat.reduceSub, Nat.reduceEqDiff, Nat.reduceLeDiff, Nat.reduceLT, Nat.le_refl, beq_self_eq_true, Nat.reduceBEq, ne_eq, not_true_eq_false, not_false_eq_true, Int32.reduceAdd, Int32.reduceSub, Int32.reduceMul, Int32.reduceLE, Int32.reduceLT, Int32.reduceToNatClampNeg, b01_0, b01_1, ne_2_0, ne_3_0, ne_4_0, ne_5_0, ne_6_0, ne_m1_0, ne_m2_0, b01_01, b01_n, lt_m2, lt_m1, le_m2, le_m1, Classical.not_not, j_Bath_sortTies_0, b_Bath_sortTies_0, j_Bath_sortTies_16, b_Bath_sortTies_16, j_Bath_sortTies_36, b_Bath_sortTies_36, j_Bath_sortTies_42, b_Bath_sortTies_42, j_Bath_sortTies_62, b_Bath_sortTies_62, j_Bath_sortTies_78, b_Bath_sortTies_78, j_Bath_sortTies_84, b_Bath_sortTies_84, an_0, an_1, cl_0, cl_1, ne_0_1, ne_1_0, pp_15_0, pp_15_4, pp_15_5, sh_15, sh_26, sh_27, vi_0, vi_1, l0, l1, l2, pp_15_0, sT0 ht, sT1 ht, sT2 ht, sT3 ht, sT4 ht, sT5 ht, sT6 ht, sT7 ht, sT8 ht, sT9 ht, pT1 ht, pT2 ht, pT3 ht, pT4 ht, pT5 ht, pT6 ht, pT7 ht, pT8 ht, pT9 ht, hnM, c1]
    exact hq M eM e26 e27
  | succ k ih =>
    intro i y z M L hi hy hz hM e26 e27 eM l0 l1 l2 hq
    have c1 : ¬ nI n ≤ nI i := nI_ge (by omega) (by omega)
    have hnM : M t 4 = nI n := by rw [mF_0 hM ht]; exact hn
    have hmM : M 15 2 = nI m := by rw [hM 15 2 (by omega)]; exact hm
    have eib : (nI i = nI b) = (i = b) := eqN (by omega) (by omega)
    rw [fo, fo] at hq
    by_cases hib : i = b
    · have z0 : (0 : Int32) ≤ 0 := by decide +kernel
      subst hib
      refine cp_run 60 (fun t => t == 16) ck_Bath_sortTies ?_
      simp only [cp_vc, cp_vs, cp_jm, cp_ent_en, cp_en_int, cp_en_ref, cp_en_ret, cp_en_long, cp_en_nil, cp_s1_at, cp_s2_at, cp_nl_int, cp_nl_ref, cp_nl_long, cp_nl_none, cp_pop_0, cp_pop_s, reduceIte, if_true, if_false, Bool.false_eq_true, Bool.true_eq_false, false_implies, implies_true, forall_const, true_implies, true_and, and_true, and_self, true_or, or_true, false_or, or_false, Value.category, List.length_cons, List.length_nil, Option.toList_some, Option.toList_none, List.cons_append, List.nil_append, List.append_nil, Prod.mk.injEq, Nat.add_zero, Nat.zero_add, Nat.reduceAdd, Nat.reduceSub, Nat.reduceEqDiff, Nat.reduceLeDiff, Nat.reduceLT, Nat.le_refl, beq_self_eq_true, Nat.reduceBEq, ne_eq, not_true_eq_false, not_false_eq_true, Int32.reduceAdd, Int32.reduceSub, Int32.reduceMul, Int32.reduceLE, Int32.reduceLT, Int32.reduceToNatClampNeg, b01_0, b01_1, ne_2_0, ne_3_0, ne_4_0, ne_5_0, ne_6_0, ne_m1_0, ne_m2_0, b01_01, b01_n, lt_m2, lt_m1, le_m2, le_m1, Classical.not_not, j_Bath_sortTies_0, b_Bath_sortTies_0, j_Bath_sortTies_16, b_Bath_sortTies_16, j_Bath_sortTies_36, b_Bath_sortTies_36, j_Bath_sortTies_42, b_Bath_sortTies_42, j_Bath_sortTies_62, b_Bath_sortTies_62, j_Bath_sortTies_78, b_Bath_sortTies_78, j_Bath_sortTies_84, b_Bath_sortTies_84, an_0, an_1, cl_0, cl_1, ne_0_1, ne_1_0, pp_15_0, pp_15_4, pp_15_5, sh_15, sh_26, sh_27, vi_0, vi_1, l0, l1, l2, pp_15_0, sT0 ht, sT1 ht, sT2 ht, sT3 ht, sT4 ht, sT5 ht, sT6 ht, sT7 ht, sT8 ht, sT9 ht, pT1 ht, pT2 ht, pT3 ht, pT4 ht, pT5 ht, pT6 ht, pT7 ht, pT8 ht, pT9 ht, hnM, c1, z0, nI_1]
      simp only [decide_true, Bool.not_true, Bool.false_and, Bool.false_eq_true, if_false] at hq
      refine ih (i + 1) y z M _ (by omega) hy hz hM e26 e27 eM ?_ ?_ ?_ hq <;> simp [cp_s1_at, cp_nl_ref, cp_nl_int, l0, l1]
    · have ectm := mF_ctm hM ht m
      simp only [hib, decide_false, Bool.not_false, Bool.true_and, decide_eq_true_eq] at hq
      refine cp_run 60 (fun t => t == 16 || t == 42) ck_Bath_sortTies ?_
      simp only [cp_vc, cp_vs, cp_jm, cp_ent_en, cp_en_int, cp_en_ref, cp_en_ret, cp_en_long, cp_en_nil, cp_s1_at, cp_s2_at, cp_nl_int, cp_nl_ref, cp_nl_long, cp_nl_none, cp_pop_0, cp_pop_s, reduceIte, if_true, if_false, Bool.false_eq_true, Bool.true_eq_false, false_implies, implies_true, forall_const, true_implies, true_and, and_true, and_self, true_or, or_true, false_or, or_false, Value.category, List.length_cons, List.length_nil, Option.toList_some, Option.toList_none, List.cons_append, List.nil_append, List.append_nil, Prod.mk.injEq, Nat.add_zero, Nat.zero_add, Nat.reduceAdd, Nat.reduceSub, Nat.reduceEqDiff, Nat.reduceLeDiff, Nat.reduceLT, Nat.le_refl, beq_self_eq_true, Nat.reduceBEq, ne_eq, not_true_eq_false, not_false_eq_true, Int32.reduceAdd, Int32.reduceSub, Int32.reduceMul, Int32.reduceLE, Int32.reduceLT, Int32.reduceToNatClampNeg, b01_0, b01_1, ne_2_0, ne_3_0, ne_4_0, ne_5_0, ne_6_0, ne_m1_0, ne_m2_0, b01_01, b01_n, lt_m2, lt_m1, le_m2, le_m1, Classical.not_not, Bool.or_false, Bool.false_or, Bool.true_or, Bool.or_true, j_Bath_sortTies_0, b_Bath_sortTies_0, j_Bath_sortTies_16, b_Bath_sortTies_16, j_Bath_sortTies_36, b_Bath_sortTies_36, j_Bath_sortTies_42, b_Bath_sortTies_42, j_Bath_sortTies_62, b_Bath_sortTies_62, j_Bath_sortTies_78, b_Bath_sortTies_78, j_Bath_sortTies_84, b_Bath_sortTies_84, an_0, an_1, cl_0, cl_1, ne_0_1, ne_1_0, pp_15_0, pp_15_4, pp_15_5, sh_15, sh_26, sh_27, vi_0, vi_1, l0, l1, l2, pp_15_0, sT0 ht, sT1 ht, sT2 ht, sT3 ht, sT4 ht, sT5 ht, sT6 ht, sT7 ht, sT8 ht, sT9 ht, pT1 ht, pT2 ht, pT3 ht, pT4 ht, pT5 ht, pT6 ht, pT7 ht, pT8 ht, pT9 ht, hnM, c1, eib, hib]
      refine c_Bath_tie ht (by omega) (by omega) (Ne.symm hib) hmM ?_
      rw [ectm]
      simp only [cp_kk, cp_vc, cp_vs, cp_jm, cp_ent_en, cp_en_int, cp_en_ref, cp_en_ret, cp_en_long, cp_en_nil, cp_s1_at, cp_s2_at, cp_nl_int, cp_nl_ref, cp_nl_long, cp_nl_none, cp_pop_0, cp_pop_s, reduceIte, if_true, if_false, Bool.false_eq_true, Bool.true_eq_false, false_implies, implies_true, forall_const, true_implies, true_and, and_true, and_self, true_or, or_true, false_or, or_false, Value.category, List.length_cons, List.length_nil, Option.toList_some, Option.toList_none, List.cons_append, List.nil_append, List.append_nil, Prod.mk.injEq, Nat.add_zero, Nat.zero_add, Nat.reduceAdd, Nat.reduceSub, Nat.reduceEqDiff, Nat.reduceLeDiff, Nat.reduceLT, Nat.le_refl, beq_self_eq_true, Nat.reduceBEq, ne_eq, not_true_eq_false, not_false_eq_true, Int32.reduceAdd, Int32.reduceSub, Int32.reduceMul, Int32.reduceLE, Int32.reduceLT, Int32.reduceToNatClampNeg, b01_0, b01_1, ne_2_0, ne_3_0, ne_4_0, ne_5_0, ne_6_0, ne_m1_0, ne_m2_0, b01_01, b01_n, lt_m2, lt_m1, le_m2, le_m1, Classical.not_not, Bool.or_false, Bool.false_or, Bool.true_or, Bool.or_true, j_Bath_sortTies_0, b_Bath_sortTies_0, j_Bath_sortTies_16, b_Bath_sortTies_16, j_Bath_sortTies_36, b_Bath_sortTies_36, j_Bath_sortTies_42, b_Bath_sortTies_42, j_Bath_sortTies_62, b_Bath_sortTies_62, j_Bath_sortTies_78, b_Bath_sortTies_78, j_Bath_sortTies_84, b_Bath_sortTies_84, an_0, an_1, cl_0, cl_1, ne_0_1, ne_1_0, pp_15_0, pp_15_4, pp_15_5, sh_15, sh_26, sh_27, vi_0, vi_1, l0, l1, l2]
      refine cp_run 60 (fun t => t == 16) ck_Bath_sortTies ?_
      simp only [cp_vc, cp_vs, cp_jm, cp_ent_en, cp_en_int, cp_en_ref, cp_en_ret, cp_en_long, cp_en_nil, cp_s1_at, cp_s2_at, cp_nl_int, cp_nl_ref, cp_nl_long, cp_nl_none, cp_pop_0, cp_pop_s, reduceIte, if_true, if_false, Bool.false_eq_true, Bool.true_eq_false, false_implies, implies_true, forall_const, true_implies, true_and, and_true, and_self, true_or, or_true, false_or, or_false, Value.category, List.length_cons, List.length_nil, Option.toList_some, Option.toList_none, List.cons_append, List.nil_append, List.append_nil, Prod.mk.injEq, Nat.add_zero, Nat.zero_add, Nat.reduceAdd, Nat.reduceSub, Nat.reduceEqDiff, Nat.reduceLeDiff, Nat.reduceLT, Nat.le_refl, beq_self_eq_true, Nat.reduceBEq, ne_eq, not_true_eq_false, not_false_eq_true, Int32.reduceAdd, Int32.reduceSub, Int32.reduceMul, Int32.reduceLE, Int32.reduceLT, Int32.reduceToNatClampNeg, b01_0, b01_1, ne_2_0, ne_3_0, ne_4_0, ne_5_0, ne_6_0, ne_m1_0, ne_m2_0, b01_01, b01_n, lt_m2, lt_m1, le_m2, le_m1, Classical.not_not, j_Bath_sortTies_0, b_Bath_sortTies_0, j_Bath_sortTies_16, b_Bath_sortTies_16, j_Bath_sortTies_36, b_Bath_sortTies_36, j_Bath_sortTies_42, b_Bath_sortTies_42, j_Bath_sortTies_62, b_Bath_sortTies_62, j_Bath_sortTies_78, b_Bath_sortTies_78, j_Bath_sortTies_84, b_Bath_sortTies_84, an_0, an_1, cl_0, cl_1, ne_0_1, ne_1_0, pp_15_0, pp_15_4, pp_15_5, sh_15, sh_26, sh_27, vi_0, vi_1, l0, l1, l2, cp_s1_at, cp_nl_ref, cp_nl_int, vin (show b < 6 by omega) (by omega), ncl (show b < 1000 by omega), e26, e27, sh1 (show i < 8 by omega), or_nI hy (pow_lt64 (show i < 6 by omega)), or_nI hz (pow_lt64 (show i < 6 by omega)), nI_1]
      have i1 : ∀ a b : Int32, a < b ↔ a.toInt < b.toInt := fun a b => Int32.lt_iff_toInt_lt
      have i2 : ∀ a b : Int32, a ≤ b ↔ a.toInt ≤ b.toInt := fun a b => Int32.le_iff_toInt_le
      refine ⟨fun c2 => ?_, fun c2 => ?_⟩
      · have n1 : ¬ 0 < ctm I t m b i := by rw [i2] at c2; rw [i1]; omega
        rw [if_neg n1] at hq
        refine ⟨fun c3 => ?_, fun c3 => ?_⟩
        · have n2 : ¬ ctm I t m b i < 0 := by rw [i2] at c3; rw [i1]; omega
          rw [if_neg n2] at hq
          refine ih (i + 1) y z M _ (by omega) hy hz hM e26 e27 eM ?_ ?_ ?_ hq <;> simp [cp_s1_at, cp_nl_ref, cp_nl_int, l0, l1]
        · have n2 : ctm I t m b i < 0 := by rw [i2] at c3; rw [i1]; omega
          rw [if_pos n2] at hq
          refine ih (i + 1) y (z ||| 2 ^ i) _ _ (by omega) hy (or_lt64 hz (pow_lt64 (by omega))) (mF_u hM (by omega)) ?_ ?_ ?_ ?_ ?_ ?_ hq
          · rw [cp_u_at, if_neg (by omega)]
            exact e26
          · simp [cp_u_at]
          · intro c j h1 h2
            rw [cp_u_at, if_neg h2]
            exact eM c j h1 h2
          · simp [cp_s1_at, cp_nl_ref, cp_nl_int, l0]
          · simp [cp_s1_at, cp_nl_ref, cp_nl_int, l1]
          · simp [cp_s1_at, cp_nl_ref, cp_nl_int]
      · have n1 : 0 < ctm I t m b i := by rw [i2] at c2; rw [i1]; omega
        have n2 : ¬ ctm I t m b i < 0 := by rw [i1] at n1 ⊢; omega
        rw [if_pos n1, if_neg n2] at hq
        refine ih (i + 1) (y ||| 2 ^ i) z _ _ (by omega) (or_lt64 hy (pow_lt64 (by omega))) hz (mF_u hM (by omega)) ?_ ?_ ?_ ?_ ?_ ?_ hq
        · simp [cp_u_at]
        · rw [cp_u_at, if_neg (by omega)]
          exact e27
        · intro c j h1 h2
          rw [cp_u_at, if_neg h1]
          exact eM c j h1 h2
        · simp [cp_s1_at, cp_nl_ref, cp_nl_int, l0]
        · simp [cp_s1_at, cp_nl_ref, cp_nl_int, l1]
        · simp [cp_s1_at, cp_nl_ref, cp_nl_int]
end Bath2
