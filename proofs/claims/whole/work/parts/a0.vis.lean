section Vi0
variable {g : cp_G} {d : Nat} {sh : cp_H} {I M N : cp_I} {J : cp_J} {P : cp_P} {Q : cp_QT} {t u r x n s m : Nat}
/-! chances: class and reference -/
theorem iv_v (h : ivB I t n s m) : ∃ v, v ≤ 100 ∧ I 47 3 = nI v ∧ I t 3 = nI v := by
  obtain ⟨v, v1, v2⟩ := (iv_tw h).1.2.2.1
  exact ⟨v, v1, v2, by rw [(iv_hd h).2.2.2.1]; exact v2⟩
theorem wt_cws {v z : Nat} : cws n v (2 ^ n - 1) z = sp_wt n v 0 z := by
  unfold cws sp_wt
  refine fo_congr n 0 1 (fun b _ hb y => ?_)
  unfold cwg
  rw [Nat.testBit_two_pow_sub_one, if_pos (decide_eq_true (show b < n by omega)), Nat.zero_testBit, if_neg (show ¬ false = true by decide)]
theorem vs_3 {v : Nat} {B W : Nat → Nat} {C : Nat → Bool} : ∀ (m k : Nat) (q : viT), (fo (sp_vs n v 0 B W C) m k q).2.2.1 = fo (fun s z => z + sp_wt n v 0 s * W s) m k q.2.2.1
  | 0, _, _ => rfl
  | m + 1, k, q => by
    rw [fo, fo, vs_3 m (k + 1)]
    congr 1
    unfold sp_vs
    rw [if_pos (Nat.and_zero k)]
theorem vs_4 {v : Nat} {B W : Nat → Nat} {C : Nat → Bool} : ∀ (m k : Nat) (q : viT), (fo (sp_vs n v 0 B W C) m k q).2.2.2 = fo (fun s z => if C s = true then z + sp_wt n v 0 s else z) m k q.2.2.2
  | 0, _, _ => rfl
  | m + 1, k, q => by
    rw [fo, fo, vs_4 m (k + 1)]
    congr 1
    unfold sp_vs
    rw [if_pos (Nat.and_zero k)]
    by_cases e : C k = true
    · simp [e]
    · simp [e]
theorem vs_2 {v ce : Nat} {B W : Nat → Nat} {C : Nat → Bool} : ∀ (m k : Nat) (q : viT), (fo (sp_vs n v ce B W C) m k q).2.1 = fo (fun s z => if decide (s &&& ce = ce) = true then z + (if B s &&& ce = ce then sp_wt n v ce s else 0) else z) m k q.2.1
  | 0, _, _ => rfl
  | m + 1, k, q => by
    rw [fo, fo, vs_2 m (k + 1)]
    congr 1
    unfold sp_vs
    by_cases e : k &&& ce = ce
    · rw [if_pos e, if_pos (decide_eq_true e)]
    · rw [if_neg e, if_neg (by simp [e])]
theorem card_full (h : n ≤ 6) : card (2 ^ n - 1) = n := by
  have key : ∀ n : Nat, n < 7 → card (2 ^ n - 1) = n := by decide +kernel
  exact key n (by omega)
theorem iv_dn (h : n ≤ 6) {v : Nat} (hv : v ≤ 100) : (rvq I n v 0).1 = 100 ^ card (2 ^ n - 1) := by
  have e := rvq_1 I (c := n) h h hv
  unfold ceO at e
  rw [if_neg (Nat.lt_irrefl n), if_neg (Nat.lt_irrefl n)] at e
  rw [e, card_full h]
theorem iv_mean (h : ivB I t n s m) (v : Nat) : fo (cmn I n v) (2 ^ n) 0 0 = (rvq I n v 0).2.2.1 := by
  unfold rvq
  rw [vs_3]
  refine fo_congr (2 ^ n) 0 0 (fun z _ hz y => ?_)
  unfold cmn
  rw [wt_cws, iv_cw h (by omega), Nat.mul_comm]
theorem iv_icy (h : ivB I t n s m) (v : Nat) : fo (cic I t n v) (2 ^ n) 0 0 = (rvq I n v 0).2.2.2 := by
  unfold rvq
  rw [vs_4]
  refine fo_congr (2 ^ n) 0 0 (fun z _ hz y => ?_)
  unfold cic
  rw [wt_cws, iv_cw h (by omega), (iv_hd h).2.2.1]
  by_cases e : rw_ I n 49 z < I 47 2
  · rw [if_pos e, if_pos (decide_eq_true e)]
  · rw [if_neg e, if_neg (by simp [e])]
theorem fo_list {p : Nat → Bool} {w : Nat → Nat} : ∀ (m k z : Nat), fo (fun s z => if p s = true then z + w s else z) m k z = ((List.range' k m).filter p).foldl (fun z s => z + w s) z
  | 0, _, _ => rfl
  | m + 1, k, z => by
    rw [fo, fo_list m (k + 1), List.range'_succ, List.filter_cons]
    by_cases e : p k = true
    · rw [if_pos e, if_pos e, List.foldl_cons]
    · rw [if_neg e, if_neg e]
theorem foldl_cong {w w' : Nat → Nat} : ∀ (l : List Nat) (z : Nat), (∀ a, a ∈ l → w a = w' a) → l.foldl (fun z s => z + w s) z = l.foldl (fun z s => z + w' s) z
  | [], _, _ => rfl
  | a :: l, z, h => by
    rw [List.foldl_cons, List.foldl_cons, h a List.mem_cons_self]
    exact foldl_cong l _ (fun b hb => h b (List.mem_cons_of_mem _ hb))
def oth (n b : Nat) : Nat := (2 ^ n - 1) &&& (63 - 2 ^ b)
theorem oth_list {b : Nat} (hn : n ≤ 6) (hb : b < n) : (List.range' 0 (2 ^ n)).filter (fun s => decide (s &&& 2 ^ b = 2 ^ b)) = ((List.range' 0 (oth n b + 1)).filter (fun s => decide (s &&& (63 - oth n b) = 0))).map (fun s => s ||| 2 ^ b) := by
  have key : ∀ n : Nat, n < 7 → ∀ b : Nat, b < n → (List.range' 0 (2 ^ n)).filter (fun s => decide (s &&& 2 ^ b = 2 ^ b)) = ((List.range' 0 (oth n b + 1)).filter (fun s => decide (s &&& (63 - oth n b) = 0))).map (fun s => s ||| 2 ^ b) := by decide +kernel
  exact key n (by omega) b hb
theorem oth_card {b : Nat} (hn : n ≤ 6) (hb : b < n) : card (oth n b) = n - 1 := by
  have key : ∀ n : Nat, n < 7 → ∀ b : Nat, b < n → card (oth n b) = n - 1 := by decide +kernel
  exact key n (by omega) b hb
theorem oth_bit {b j : Nat} (hn : n ≤ 6) (hb : b < n) (hj : j < n) : (oth n b).testBit j = !decide (j = b) := by
  have key : ∀ n : Nat, n < 7 → ∀ b : Nat, b < n → ∀ j : Nat, j < n → (oth n b).testBit j = !decide (j = b) := by decide +kernel
  exact key n (by omega) b hb j hj
theorem and_p2 {a b : Nat} : a &&& 2 ^ b = 2 ^ b ↔ a.testBit b = true := by
  constructor
  · intro h
    have e : (a &&& 2 ^ b).testBit b = true := by rw [h, Nat.testBit_two_pow_self]
    rw [Nat.testBit_and, Bool.and_eq_true] at e
    exact e.1
  · intro h
    apply Nat.eq_of_testBit_eq
    intro i
    rw [Nat.testBit_and, Nat.testBit_two_pow]
    by_cases e : b = i
    · subst e
      simp [h]
    · simp [e]
theorem wt_oth {b v z : Nat} (hn : n ≤ 6) (hb : b < n) : cws n v (oth n b) z = sp_wt n v (2 ^ b) (z ||| 2 ^ b) := by
  unfold cws sp_wt
  refine fo_congr n 0 1 (fun j _ hj y => ?_)
  unfold cwg
  rw [oth_bit hn hb (show j < n by omega), Nat.testBit_two_pow, Nat.testBit_or, Nat.testBit_two_pow]
  by_cases e : j = b
  · subst e
    simp
  · have e' : ¬ b = j := fun q => e q.symm
    simp [e, e']
theorem iv_odds (h : ivB I t n s m) {b : Nat} (hb : b < n) (v : Nat) : fo (cod I t n v b (oth n b)) (oth n b + 1) 0 0 = (rvq I n v (2 ^ b)).2.1 := by
  have h6 := iv_n6 h
  unfold rvq
  rw [vs_2, fo_list, oth_list h6 hb, List.foldl_map]
  have e1 : fo (cod I t n v b (oth n b)) (oth n b + 1) 0 0 = fo (fun s z => if decide (s &&& (63 - oth n b) = 0) = true then z + (if cd I t b s = true then cws n v (oth n b) s else 0) else z) (oth n b + 1) 0 0 := by
    refine fo_congr _ 0 0 (fun z _ _ y => ?_)
    unfold cod
    by_cases e : z &&& (63 - oth n b) = 0
    · by_cases e2 : cd I t b z = true
      · simp [e, e2]
      · simp [e, e2]
    · simp [e]
  rw [e1, fo_list]
  refine foldl_cong _ 0 (fun z hz => ?_)
  rw [List.mem_filter, List.mem_range'_1] at hz
  have ho : oth n b ≤ 2 ^ n - 1 := Nat.and_le_left
  have hp := pwp n
  have hz2 : z < 2 ^ n := by omega
  rw [iv_cd h hz2 hb, wt_oth h6 hb]
  have e3 : (rb I n 49 (z ||| 2 ^ b) &&& 2 ^ b = 2 ^ b) = (rd I n b z = true) := by
    rw [and_p2, rb_bit]
    unfold rd
    simp [hb, Nat.testBit_or]
  simp only [e3]
theorem iv_dno {b v : Nat} (h : n ≤ 6) (hb : b < n) (hv : v ≤ 100) : (rvq I n v (2 ^ b)).1 = 100 ^ card (oth n b) := by
  have e := rvq_1 I (c := b) h (by omega) hv
  unfold ceO at e
  rw [if_pos hb, if_pos hb] at e
  rw [e, oth_card h hb]
/-! mornings -/
theorem dr_lt2 {v : Nat} : ∀ (m k : Nat) (q : Nat × Nat), q.2 < 2 ^ k → (fo (sp_dr v) m k q).2 < 2 ^ (k + m)
  | 0, _, _, h => h
  | m + 1, k, q, h => by
    rw [fo, show k + (m + 1) = k + 1 + m by omega]
    refine dr_lt2 m (k + 1) _ ?_
    unfold sp_dr
    simp only
    split
    · exact or_lt h
    · exact Nat.lt_of_lt_of_le h (Nat.pow_le_pow_right (by omega) (by omega))
theorem dr_n {v : Nat} (q : Nat) : (fo (sp_dr v) n 0 (q, 0)).2 < 2 ^ n := by
  have := dr_lt2 (v := v) n 0 (q, 0) (Nat.two_pow_pos 0)
  rw [Nat.zero_add] at this
  exact this
theorem cmo_cong {v : Nat} {f f' : Nat → Nat} (h : ∀ z, z < 2 ^ n → f z = f' z) (m k : Nat) (q : Nat × Nat) : fo (cmo n v f) m k q = fo (cmo n v f') m k q := by
  refine fo_congr m k q (fun j _ _ q => ?_)
  unfold cmo
  rw [h _ (dr_n q.1)]
theorem sa_b {z b : Nat} : ∀ (m k : Nat) (St : Nat → Int32), fo (sp_sa z) m k St b = if k ≤ b ∧ b < k + m then St b + (if z.testBit b = true then 1 else 0) else St b
  | 0, k, St => by rw [if_neg (by omega)]; rfl
  | m + 1, k, St => by
    rw [fo, sa_b m (k + 1)]
    unfold sp_sa
    by_cases e : b = k
    · subst e
      rw [if_neg (by omega), pk_us, if_pos (c := b ≤ b ∧ b < b + (m + 1)) (by omega)]
    · rw [pk_un e]
      by_cases c : k ≤ b ∧ b < k + (m + 1)
      · rw [if_pos c, if_pos (by omega)]
      · rw [if_neg c, if_neg (by omega)]
theorem mo_rel {B : Nat → Nat} {v b : Nat} (hb : b < n) : ∀ (m k : Nat) (q : Nat × Nat) (q' : moT), q'.1 = q.1 → q'.2.2.2 b = nI q.2 → (fo (sp_mo B n v) m k q').2.2.2 b = nI (fo (cmo n v (fun s => if ((sp_stay B 7 s).1).testBit b = true then 1 else 0)) m k q).2
  | 0, _, _, _, _, h => h
  | m + 1, k, q, q', h1, h2 => by
    rw [fo, fo]
    refine mo_rel hb m (k + 1) _ _ ?_ ?_
    · unfold sp_mo cmo
      rw [h1]
    · unfold sp_mo cmo
      simp only
      rw [sa_b, if_pos (by omega), h1, h2]
      by_cases e : ((sp_stay B 7 (fo (sp_dr v) n 0 (q.1, 0)).2).1).testBit b = true
      · rw [if_pos e, if_pos e, nI_1]
      · rw [if_neg e, if_neg e, Nat.add_zero, Int32.add_zero]
theorem mo_rel2 {B : Nat → Nat} {v : Nat} : ∀ (m k : Nat) (q : Nat × Nat) (q' : moT), q'.1 = q.1 → q'.2.1 = nI q.2 → (fo (sp_mo B n v) m k q').2.1 = nI (fo (cmo n v (fun s => (sp_stay B 7 s).2)) m k q).2
  | 0, _, _, _, _, h => h
  | m + 1, k, q, q', h1, h2 => by
    rw [fo, fo]
    refine mo_rel2 m (k + 1) _ _ ?_ ?_
    · unfold sp_mo cmo
      rw [h1]
    · unfold sp_mo cmo
      simp only
      rw [h1, h2, nI_add]
theorem rb_k (e47 : M 47 = I 47) (e49 : M 49 = I 49) : rb M n 49 = rb I n 49 := by
  funext z
  unfold rb rw_ rn rt
  rw [e47, e49]
theorem c_CP_areMornings {sd N : Int32} (ht : tk t) (hn6 : n ≤ 6) (hn : I t 4 = nI n) (h1 : ∀ s k, 0 < n → s ≤ 65536 → k ≤ 60 → sd = nI s → N = nI k → Q (some (.int 1)) SH (rfu I 0) J (PP t u r x)) (h2 : 0 < n → ¬ (∃ s k, s ≤ 65536 ∧ k ≤ 60 ∧ sd = nI s ∧ N = nI k) → Q (some (.int 0)) SH (rfu I 2) J (PP t u r x)) (h0 : n = 0 → Q (some (.int 0)) SH (rfu I 1) J (PP t u r x)) : MW g false (d + 3) 0 0 m_CP_areMornings [.ref 0, .int sd, .int N] SH I J (PP t u r x) Q := by
  refine MW.of ok_CP_areMornings (Nat.le_of_ble_eq_true rfl) ?_
  refine cp_run 40 (fun _ => false) ck_CP_areMornings ?_
  simp only [cp_vc, cp_vs, cp_jm, cp_ent_en, cp_en_int, cp_en_ref, cp_en_ret, cp_en_long, cp_en_nil, cp_s1_at, cp_s2_at, cp_nl_int, cp_nl_ref, cp_nl_long, cp_nl_none, cp_pop_0, cp_pop_s, reduceIte, if_true, if_false, Bool.false_eq_true, Bool.true_eq_false, false_implies, implies_true, forall_const, true_implies, true_and, and_true, and_self, true_or, or_true, false_or, or_false, Value.category, List.length_cons, List.length_nil, Option.toList_some, Option.toList_none, List.cons_append, List.nil_append, List.append_nil, Prod.mk.injEq, Nat.add_zero, Nat.zero_add, Nat.reduceAdd, Nat.reduceSub, Nat.reduceEqDiff, Nat.reduceLeDiff, Nat.reduceLT, Nat.le_refl, beq_self_eq_true, Nat.reduceBEq, ne_eq, not_true_eq_false, not_false_eq_true, Int32.reduceAdd, Int32.reduceSub, Int32.reduceMul, Int32.reduceLE, Int32.reduceLT, Int32.reduceToNatClampNeg, b01_0, b01_1, ne_2_0, ne_3_0, ne_4_0, ne_5_0, ne_6_0, ne_m1_0, ne_m2_0, b01_01, b01_n, lt_m2, lt_m1, le_m2, le_m1, Classical.not_not, j_CP_areMornings_0, b_CP_areMornings_0, j_CP_areMornings_25, b_CP_areMornings_25, j_CP_areMornings_26, b_CP_areMornings_26, an_0, an_1, cl_0, cl_1, cl_60, ne_0_1, ne_1_0, sh_0, vi_0, vi_1, vi_60]
  refine c_CP_isNumber (d := d) (m := 65536) ht hn6 hn (by omega) ?_ ?_ ?_
  · intro k h0n hk hak
    simp only [cp_kk, cp_vc, cp_vs, cp_jm, cp_ent_en, cp_en_int, cp_en_ref, cp_en_ret, cp_en_long, cp_en_nil, cp_s1_at, cp_s2_at, cp_nl_int, cp_nl_ref, cp_nl_long, cp_nl_none, cp_pop_0, cp_pop_s, reduceIte, if_true, if_false, Bool.false_eq_true, Bool.true_eq_false, false_implies, implies_true, forall_const, true_implies, true_and, and_true, and_self, true_or, or_true, false_or, or_false, Value.category, List.length_cons, List.length_nil, Option.toList_some, Option.toList_none, List.cons_append, List.nil_append, List.append_nil, Prod.mk.injEq, Nat.add_zero, Nat.zero_add, Nat.reduceAdd, Nat.reduceSub, Nat.reduceEqDiff, Nat.reduceLeDiff, Nat.reduceLT, Nat.le_refl, beq_self_eq_true, Nat.reduceBEq, ne_eq, not_true_eq_false, not_false_eq_true, Int32.reduceAdd, Int32.reduceSub, Int32.reduceMul, Int32.reduceLE, Int32.reduceLT, Int32.reduceToNatClampNeg, b01_0, b01_1, ne_2_0, ne_3_0, ne_4_0, ne_5_0, ne_6_0, ne_m1_0, ne_m2_0, b01_01, b01_n, lt_m2, lt_m1, le_m2, le_m1, Classical.not_not, Bool.or_false, Bool.false_or, Bool.true_or, Bool.or_true, j_CP_areMornings_0, b_CP_areMornings_0, j_CP_areMornings_25, b_CP_areMornings_25, j_CP_areMornings_26, b_CP_areMornings_26, an_0, an_1, cl_0, cl_1, cl_60, ne_0_1, ne_1_0, sh_0, vi_0, vi_1, vi_60]
    have hn' : rfu I 0 t 4 = nI n := by rw [rfu_t ht]; exact hn
    refine c_CP_isNumber (d := d) (m := 60) ht hn6 hn' (by omega) ?_ ?_ ?_
    · intro k2 _ hk2 hak2
      simp only [cp_kk, cp_vc, cp_vs, cp_jm, cp_ent_en, cp_en_int, cp_en_ref, cp_en_ret, cp_en_long, cp_en_nil, cp_s1_at, cp_s2_at, cp_nl_int, cp_nl_ref, cp_nl_long, cp_nl_none, cp_pop_0, cp_pop_s, reduceIte, if_true, if_false, Bool.false_eq_true, Bool.true_eq_false, false_implies, implies_true, forall_const, true_implies, true_and, and_true, and_self, true_or, or_true, false_or, or_false, Value.category, List.length_cons, List.length_nil, Option.toList_some, Option.toList_none, List.cons_append, List.nil_append, List.append_nil, Prod.mk.injEq, Nat.add_zero, Nat.zero_add, Nat.reduceAdd, Nat.reduceSub, Nat.reduceEqDiff, Nat.reduceLeDiff, Nat.reduceLT, Nat.le_refl, beq_self_eq_true, Nat.reduceBEq, ne_eq, not_true_eq_false, not_false_eq_true, Int32.reduceAdd, Int32.reduceSub, Int32.reduceMul, Int32.reduceLE, Int32.reduceLT, Int32.reduceToNatClampNeg, b01_0, b01_1, ne_2_0, ne_3_0, ne_4_0, ne_5_0, ne_6_0, ne_m1_0, ne_m2_0, b01_01, b01_n, lt_m2, lt_m1, le_m2, le_m1, Classical.not_not, Bool.or_false, Bool.false_or, Bool.true_or, Bool.or_true, j_CP_areMornings_0, b_CP_areMornings_0, j_CP_areMornings_25, b_CP_areMornings_25, j_CP_areMornings_26, b_CP_areMornings_26, an_0, an_1, cl_0, cl_1, cl_60, ne_0_1, ne_1_0, sh_0, vi_0, vi_1, vi_60]
      rw [show rfu (rfu I 0) 0 = rfu I 0 from rfu_rfu]
      exact h1 k k2 h0n hk hk2 hak hak2
    · intro _ hno
      simp only [cp_kk, cp_vc, cp_vs, cp_jm, cp_ent_en, cp_en_int, cp_en_ref, cp_en_ret, cp_en_long, cp_en_nil, cp_s1_at, cp_s2_at, cp_nl_int, cp_nl_ref, cp_nl_long, cp_nl_none, cp_pop_0, cp_pop_s, reduceIte, if_true, if_false, Bool.false_eq_true, Bool.true_eq_false, false_implies, implies_true, forall_const, true_implies, true_and, and_true, and_self, true_or, or_true, false_or, or_false, Value.category, List.length_cons, List.length_nil, Option.toList_some, Option.toList_none, List.cons_append, List.nil_append, List.append_nil, Prod.mk.injEq, Nat.add_zero, Nat.zero_add, Nat.reduceAdd, Nat.reduceSub, Nat.reduceEqDiff, Nat.reduceLeDiff, Nat.reduceLT, Nat.le_refl, beq_self_eq_true, Nat.reduceBEq, ne_eq, not_true_eq_false, not_false_eq_true, Int32.reduceAdd, Int32.reduceSub, Int32.reduceMul, Int32.reduceLE, Int32.reduceLT, Int32.reduceToNatClampNeg, b01_0, b01_1, ne_2_0, ne_3_0, ne_4_0, ne_5_0, ne_6_0, ne_m1_0, ne_m2_0, b01_01, b01_n, lt_m2, lt_m1, le_m2, le_m1, Classical.not_not, Bool.or_false, Bool.false_or, Bool.true_or, Bool.or_true, j_CP_areMornings_0, b_CP_areMornings_0, j_CP_areMornings_25, b_CP_areMornings_25, j_CP_areMornings_26, b_CP_areMornings_26, an_0, an_1, cl_0, cl_1, cl_60, ne_0_1, ne_1_0, sh_0, vi_0, vi_1, vi_60]
      rw [show rfu (rfu I 0) 2 = rfu I 2 from rfu_rfu]
      refine h2 h0n (fun z => hno ?_)
      obtain ⟨a, b, -, c, -, e⟩ := z
      exact ⟨b, c, e⟩
    · intro z
      omega
  · intro h0n hno
    simp only [cp_kk, cp_vc, cp_vs, cp_jm, cp_ent_en, cp_en_int, cp_en_ref, cp_en_ret, cp_en_long, cp_en_nil, cp_s1_at, cp_s2_at, cp_nl_int, cp_nl_ref, cp_nl_long, cp_nl_none, cp_pop_0, cp_pop_s, reduceIte, if_true, if_false, Bool.false_eq_true, Bool.true_eq_false, false_implies, implies_true, forall_const, true_implies, true_and, and_true, and_self, true_or, or_true, false_or, or_false, Value.category, List.length_cons, List.length_nil, Option.toList_some, Option.toList_none, List.cons_append, List.nil_append, List.append_nil, Prod.mk.injEq, Nat.add_zero, Nat.zero_add, Nat.reduceAdd, Nat.reduceSub, Nat.reduceEqDiff, Nat.reduceLeDiff, Nat.reduceLT, Nat.le_refl, beq_self_eq_true, Nat.reduceBEq, ne_eq, not_true_eq_false, not_false_eq_true, Int32.reduceAdd, Int32.reduceSub, Int32.reduceMul, Int32.reduceLE, Int32.reduceLT, Int32.reduceToNatClampNeg, b01_0, b01_1, ne_2_0, ne_3_0, ne_4_0, ne_5_0, ne_6_0, ne_m1_0, ne_m2_0, b01_01, b01_n, lt_m2, lt_m1, le_m2, le_m1, Classical.not_not, Bool.or_false, Bool.false_or, Bool.true_or, Bool.or_true, j_CP_areMornings_0, b_CP_areMornings_0, j_CP_areMornings_25, b_CP_areMornings_25, j_CP_areMornings_26, b_CP_areMornings_26, an_0, an_1, cl_0, cl_1, cl_60, ne_0_1, ne_1_0, sh_0, vi_0, vi_1, vi_60]
    refine h2 h0n (fun z => hno ?_)
    obtain ⟨a, b, c, -, e, -⟩ := z
    exact ⟨a, c, e⟩
  · intro h0n
    simp only [cp_kk, cp_vc, cp_vs, cp_jm, cp_ent_en, cp_en_int, cp_en_ref, cp_en_ret, cp_en_long, cp_en_nil, cp_s1_at, cp_s2_at, cp_nl_int, cp_nl_ref, cp_nl_long, cp_nl_none, cp_pop_0, cp_pop_s, reduceIte, if_true, if_false, Bool.false_eq_true, Bool.true_eq_false, false_implies, implies_true, forall_const, true_implies, true_and, and_true, and_self, true_or, or_true, false_or, or_false, Value.category, List.length_cons, List.length_nil, Option.toList_some, Option.toList_none, List.cons_append, List.nil_append, List.append_nil, Prod.mk.injEq, Nat.add_zero, Nat.zero_add, Nat.reduceAdd, Nat.reduceSub, Nat.reduceEqDiff, Nat.reduceLeDiff, Nat.reduceLT, Nat.le_refl, beq_self_eq_true, Nat.reduceBEq, ne_eq, not_true_eq_false, not_false_eq_true, Int32.reduceAdd, Int32.reduceSub, Int32.reduceMul, Int32.reduceLE, Int32.reduceLT, Int32.reduceToNatClampNeg, b01_0, b01_1, ne_2_0, ne_3_0, ne_4_0, ne_5_0, ne_6_0, ne_m1_0, ne_m2_0, b01_01, b01_n, lt_m2, lt_m1, le_m2, le_m1, Classical.not_not, Bool.or_false, Bool.false_or, Bool.true_or, Bool.or_true, j_CP_areMornings_0, b_CP_areMornings_0, j_CP_areMornings_25, b_CP_areMornings_25, j_CP_areMornings_26, b_CP_areMornings_26, an_0, an_1, cl_0, cl_1, cl_60, ne_0_1, ne_1_0, sh_0, vi_0, vi_1, vi_60]
    exact h0 h0n
theorem mgw_1 {sd N : Int32} {a b : Nat} (ha : a ≤ 65536) (hb : b ≤ 60) (e1 : sd = nI a) (e2 : N = nI b) : mgw true sd N = 0 := by
  subst e1
  subst e2
  unfold mgw
  rw [if_neg (by decide), if_neg (nI_pos (by omega)), if_neg (show ¬ (65536 : Int32) < nI a from nI_nlt (a := 65536) ha (by omega)), if_neg (nI_pos (by omega)), if_neg (show ¬ (60 : Int32) < nI b from nI_nlt (a := 60) hb (by omega))]
theorem mgw_2 {sd N : Int32} (h : ¬ ∃ a b, a ≤ 65536 ∧ b ≤ 60 ∧ sd = nI a ∧ N = nI b) : mgw true sd N = 2 := by
  unfold mgw
  rw [if_neg (by decide)]
  by_cases c1 : sd < 0
  · rw [if_pos c1]
  · rw [if_neg c1]
    obtain ⟨a, ha, rfl⟩ := nI_of c1
    by_cases c2 : (65536 : Int32) < nI a
    · rw [if_pos c2]
    · rw [if_neg c2]
      by_cases c3 : N < 0
      · rw [if_pos c3]
      · rw [if_neg c3]
        obtain ⟨b, hb, rfl⟩ := nI_of c3
        by_cases c4 : (60 : Int32) < nI b
        · rw [if_pos c4]
        · refine absurd ⟨a, b, ?_, ?_, rfl, rfl⟩ h
          · rcases Nat.lt_or_ge 65536 a with z | z
            · exact absurd (nI_lt (a := 65536) z ha) c2
            · exact z
          · rcases Nat.lt_or_ge 60 b with z | z
            · exact absurd (nI_lt (a := 60) z hb) c4
            · exact z
end Vi0
