section Prb
variable {g : cp_G} {d : Nat} {I M N : cp_I} {J : cp_J} {Q : cp_QT} {t u r x n s m : Nat} {S : Nat → Bool}
theorem find_cong {p q : blT → Bool} : ∀ (L : List blT), (∀ l, l ∈ L → p l = q l) → L.find? p = L.find? q
  | [], _ => rfl
  | l :: L, h => by
    rw [List.find?_cons, List.find?_cons, h l List.mem_cons_self, find_cong L (fun l hl => h l (List.mem_cons_of_mem _ hl))]
theorem fiO_at {α : Type} {p : Nat → Option α} {c : Nat} {a : α} (hc : p c = some a) : ∀ (m k : Nat), k ≤ c → c < k + m → (∀ j, k ≤ j → j < c → p j = none) → fiO p m k = some a
  | 0, k, h1, h2, _ => by omega
  | m + 1, k, h1, h2, h => by
    show (match p k with | some a => some a | none => fiO p m (k + 1)) = some a
    by_cases e : k = c
    · subst e
      rw [hc]
    · rw [h k (by omega) (by omega)]
      exact fiO_at hc m (k + 1) (by omega) (by omega) (fun j j1 j2 => h j (by omega) j2)
theorem fiO_no {α : Type} {p : Nat → Option α} : ∀ (m k : Nat), (∀ j, k ≤ j → j < k + m → p j = none) → fiO p m k = none
  | 0, _, _ => rfl
  | m + 1, k, h => by
    show (match p k with | some a => some a | none => fiO p m (k + 1)) = none
    rw [h k (by omega) (by omega)]
    exact fiO_no m (k + 1) (fun j j1 j2 => h j (by omega) (by omega))
def bL0 (n : Nat) : List blT := bL n 0 0 (fun _ => 0) (fun _ => 0)
theorem bL0_in {l : blT} (hn : 0 < n) (h : l ∈ bL0 n) : l.1 ≤ n ∧ 0 < l.1 ∧ (∀ j, j < n → l.2.2 j < l.1) ∧ (∀ k j, (l.2.1 k).testBit j = true ↔ j < n ∧ l.2.2 j = k) ∧ ∀ k, l.2.1 k < 2 ^ n := by
  obtain ⟨r1, r2, r3, r4⟩ := bL_in n 0 0 _ _ l (by omega) (fun j hj => absurd hj (Nat.not_lt_zero _)) (fun k j => by
    rw [Nat.zero_testBit]
    constructor
    · intro h; cases h
    · rintro ⟨h, -⟩; exact absurd h (Nat.not_lt_zero _)) h
  rw [Nat.zero_add] at r1 r3
  refine ⟨r1, r2 (by omega) (by omega), r3, fun k j => by rw [r4, Nat.zero_add], fun k => lt_bits (fun i hi => ?_)⟩
  have := ((r4 k i).mp hi).1
  omega
theorem iv_pf (h : ivB I t n s m) (hn : 0 < n) (many : Nat) : sp_pf (cs I) many n 0 0 (fun _ => 0) = ((bL0 n).find? (fun l => decide (l.1 ≤ many) && bV (rs I n 49) l)).map (fun l => l.2.1) := by
  rw [pf_L n 0 0 (fun _ => 0) (fun _ => 0) (Nat.zero_le _)]
  congr 1
  refine find_cong _ (fun l hl => ?_)
  obtain ⟨-, -, -, -, h5⟩ := bL0_in hn hl
  congr 1
  unfold bV
  exact al_cong _ 0 (fun k _ _ => iv_cs h (h5 k))
theorem iv_bt (h : ivB I t n s m) (hn : 0 < n) : ((rbq I n).1 = 1000000 ∧ cfb I n n 1 = none) ∨ ((rbq I n).1 < 1000000 ∧ ∃ (mm as : Nat → Nat), cfb I n n 1 = some ((rbq I n).1, mm) ∧ (rbq I n).1 ≤ 6 ∧ ∀ b, b < n → (rbq I n).2.2 b = nI (as b) ∧ as b < (rbq I n).1 ∧ ∀ k, (mm k).testBit b = true ↔ as b = k) := by
  have h6 := iv_n6 h
  have hb := (bt_L (S := rs I n 49) h6 n 0 0 (fun _ => 0) (fun _ => 0) (1000000, I 53, I 54) (by omega) (fun j hj => absurd hj (Nat.not_lt_zero _))).1
  have e1 : (rbq I n).1 = ((bL0 n).foldl (stp (rs I n 49)) (1000000, I 54)).1 := hb.1
  have e2 : ∀ j, j < n → (rbq I n).2.2 j = ((bL0 n).foldl (stp (rs I n 49)) (1000000, I 54)).2 j := hb.2
  rcases stp_min (S := rs I n 49) (bL0 n) (1000000, I 54) with ⟨r1, -, r3⟩ | ⟨r1, r2, l, r3, r4, r5⟩
  · left
    refine ⟨by rw [e1, r1], fiO_no n 1 (fun many _ _ => ?_)⟩
    rw [iv_pf h hn]
    have : (bL0 n).find? (fun l => decide (l.1 ≤ many) && bV (rs I n 49) l) = none := by
      rw [List.find?_eq_none]
      intro l hl hc
      rw [Bool.and_eq_true] at hc
      have := r3 l hl hc.2
      have := (bL0_in hn hl).1
      have hq : (1000000 : Nat) ≤ l.1 := r3 l hl hc.2
      omega
    rw [this]
    rfl
  · right
    rw [← e1] at r1 r2 r3 r4
    have hl : l ∈ bL0 n := List.mem_of_find?_eq_some r3
    obtain ⟨q1, q2, q3, q4, -⟩ := bL0_in hn hl
    refine ⟨r1, l.2.1, l.2.2, ?_, by omega, fun b hb' => ⟨?_, by have := q3 b hb'; omega, fun k => ?_⟩⟩
    · refine fiO_at (c := (rbq I n).1) ?_ n 1 (by omega) (by omega) (fun many h1 h2 => ?_)
      · rw [iv_pf h hn, r3]
        rfl
      · rw [iv_pf h hn]
        have : (bL0 n).find? (fun l => decide (l.1 ≤ many) && bV (rs I n 49) l) = none := by
          rw [List.find?_eq_none]
          intro l' hl' hc
          rw [Bool.and_eq_true, decide_eq_true_eq] at hc
          have := r2 l' hl' hc.2
          omega
        rw [this]
        rfl
    · rw [e2 b hb', r5]
    · rw [q4]
      exact ⟨fun z => z.2, fun z => ⟨hb', z⟩⟩
theorem rbq_k (e47 : M 47 = I 47) (e49 : M 49 = I 49) (e53 : M 53 = I 53) (e54 : M 54 = I 54) : rbq M n = rbq I n := by
  unfold rbq
  have e : rs M n 49 = rs I n 49 := by
    funext z
    unfold rs
    rw [rb_k e47 e49]
  rw [e, e53, e54]
theorem kp_tbm {q : tbT} (h55 : ∀ j, I 55 j = 0) : kp I (tbm I q (fun _ => 0)) := by
  refine ⟨fun a ha => funext fun j => ?_, fun j hj => ?_, fun j hj => ?_⟩
  · have := wc_ne ha
    unfold tbm
    rw [if_neg (by omega), if_neg (by omega), if_neg (by omega)]
    by_cases e : a = 55
    · rw [if_pos e, e, h55 j]
      rfl
    · rw [if_neg e]
  · unfold k44 at hj
    unfold tbm
    rw [if_neg (by omega), if_neg (by omega), if_neg (by omega), if_neg (by omega)]
  · unfold tbm
    rw [if_neg (by omega), if_neg (by omega), if_neg (by omega), if_neg (by omega)]
theorem tbm_0 {q : tbT} {mm : Nat → Nat} {a j : Nat} (h : (a = 0 ∧ j = 2) ∨ (a = 44 ∧ j = 11)) : tbm I q mm a j = I a j := by
  unfold tbm
  rw [if_neg (by omega), if_neg (by omega), if_neg (by omega), if_neg (by omega)]
theorem pf_fin (h0 : Iv0 I t u n s m) (hM : ∀ a j, ¬ (a = 39 ∧ j < 6) → M a j = rfu I 0 a j) : kp I M ∧ M 0 2 = 0 ∧ rbq M n = rbq (rfu I 0) n ∧ Iv (tbm (gd M) (rbq M n) (fun _ => 0)) t u := by
  have k : kp I M := kp_of (kp_rfu kp_r 0) (fun a j ha => hM a j (by have := wc_ne ha; omega)) (fun j _ => hM 44 j (by omega)) (fun j _ => hM 0 j (by omega))
  have e2 : M 0 2 = 0 := by rw [hM 0 2 (by omega)]; exact rfu_2
  refine ⟨k, e2, rbq_k (funext fun j => hM 47 j (by omega)) (funext fun j => hM 49 j (by omega)) (funext fun j => hM 53 j (by omega)) (funext fun j => hM 54 j (by omega)), ?_⟩
  have c1 := (iv_fr h0 (kp_gd k)).1
  exact iv_gk h0 k e2 (kp_tbm (iv_55 c1)) (tbm_0 (by omega)) (tbm_0 (by omega))
theorem pr_baths (h : Iv I t u) : PR g d m_CP_baths m_Mod_baths [] I J t u r x := by
  obtain ⟨⟨n, s, m, h0⟩, -, -⟩ := h
  have hB := h0.1
  have b0 := (iv_rf h0 1).1
  have b1 := (iv_rf h0 0).1
  have h6 := iv_n6 hB
  unfold PR
  refine MW.of ok_CP_baths (Nat.le_of_ble_eq_true rfl) ?_
  refine cp_run 40 (fun _ => false) ck_CP_baths ?_
  simp only [cp_vc, cp_vs, cp_jm, cp_ent_en, cp_en_int, cp_en_ref, cp_en_ret, cp_en_long, cp_en_nil, cp_s1_at, cp_s2_at, cp_nl_int, cp_nl_ref, cp_nl_long, cp_nl_none, cp_pop_0, cp_pop_s, reduceIte, if_true, if_false, Bool.false_eq_true, Bool.true_eq_false, false_implies, implies_true, forall_const, true_implies, true_and, and_true, and_self, true_or, or_true, false_or, or_false, Value.category, List.length_cons, List.length_nil, Option.toList_some, Option.toList_none, List.cons_append, List.nil_append, List.append_nil, Prod.mk.injEq, Nat.add_zero, Nat.zero_add, Nat.reduceAdd, Nat.reduceSub, Nat.reduceEqDiff, Nat.reduceLeDiff, Nat.reduceLT, Nat.le_refl, beq_self_eq_true, Nat.reduceBEq, ne_eq, not_true_eq_false, not_false_eq_true, Int32.reduceAdd, Int32.reduceSub, Int32.reduceMul, Int32.reduceLE, Int32.reduceLT, Int32.reduceToNatClampNeg, b01_0, b01_1, ne_2_0, ne_3_0, ne_4_0, ne_5_0, ne_6_0, ne_m1_0, ne_m2_0, b01_01, b01_n, lt_m2, lt_m1, le_m2, le_m1, Classical.not_not, j_CP_baths_0, b_CP_baths_0, j_CP_baths_21, b_CP_baths_21, j_CP_baths_22, b_CP_baths_22, an_0, an_1, ne_0_1, ne_0_m1, ne_1_0, ne_1_m1, ne_m1_0, ne_m1_1, pp_0_10, pp_0_7, sh_0, sh_15, sh_38]
  refine c_CP_isTold (n := n) (iv_tk hB) (iv_n6 hB) (iv_cn hB) ?_ ?_
  · intro hn
    have hb := iv_bt b1 hn
    simp only [cp_kk, cp_vc, cp_vs, cp_jm, cp_ent_en, cp_en_int, cp_en_ref, cp_en_ret, cp_en_long, cp_en_nil, cp_s1_at, cp_s2_at, cp_nl_int, cp_nl_ref, cp_nl_long, cp_nl_none, cp_pop_0, cp_pop_s, reduceIte, if_true, if_false, Bool.false_eq_true, Bool.true_eq_false, false_implies, implies_true, forall_const, true_implies, true_and, and_true, and_self, true_or, or_true, false_or, or_false, Value.category, List.length_cons, List.length_nil, Option.toList_some, Option.toList_none, List.cons_append, List.nil_append, List.append_nil, Prod.mk.injEq, Nat.add_zero, Nat.zero_add, Nat.reduceAdd, Nat.reduceSub, Nat.reduceEqDiff, Nat.reduceLeDiff, Nat.reduceLT, Nat.le_refl, beq_self_eq_true, Nat.reduceBEq, ne_eq, not_true_eq_false, not_false_eq_true, Int32.reduceAdd, Int32.reduceSub, Int32.reduceMul, Int32.reduceLE, Int32.reduceLT, Int32.reduceToNatClampNeg, b01_0, b01_1, ne_2_0, ne_3_0, ne_4_0, ne_5_0, ne_6_0, ne_m1_0, ne_m2_0, b01_01, b01_n, lt_m2, lt_m1, le_m2, le_m1, Classical.not_not, Bool.or_false, Bool.false_or, Bool.true_or, Bool.or_true, j_CP_baths_0, b_CP_baths_0, j_CP_baths_21, b_CP_baths_21, j_CP_baths_22, b_CP_baths_22, an_0, an_1, ne_0_1, ne_0_m1, ne_1_0, ne_1_m1, ne_m1_0, ne_m1_1, pp_0_10, pp_0_7, sh_0, sh_15, sh_38]
    refine c_Part_fewest (d := d + 14 - n) (by omega) (iv_cT b1) ?_ ?_
    · intro q hq
      rcases hb with ⟨-, r⟩ | ⟨r1, mm, as, r2, r3, r4⟩
      · rw [hq] at r
        cases r
      · rw [hq] at r2
        cases r2
        simp only [cp_kk, cp_vc, cp_vs, cp_jm, cp_ent_en, cp_en_int, cp_en_ref, cp_en_ret, cp_en_long, cp_en_nil, cp_s1_at, cp_s2_at, cp_nl_int, cp_nl_ref, cp_nl_long, cp_nl_none, cp_pop_0, cp_pop_s, reduceIte, if_true, if_false, Bool.false_eq_true, Bool.true_eq_false, false_implies, implies_true, forall_const, true_implies, true_and, and_true, and_self, true_or, or_true, false_or, or_false, Value.category, List.length_cons, List.length_nil, Option.toList_some, Option.toList_none, List.cons_append, List.nil_append, List.append_nil, Prod.mk.injEq, Nat.add_zero, Nat.zero_add, Nat.reduceAdd, Nat.reduceSub, Nat.reduceEqDiff, Nat.reduceLeDiff, Nat.reduceLT, Nat.le_refl, beq_self_eq_true, Nat.reduceBEq, ne_eq, not_true_eq_false, not_false_eq_true, Int32.reduceAdd, Int32.reduceSub, Int32.reduceMul, Int32.reduceLE, Int32.reduceLT, Int32.reduceToNatClampNeg, b01_0, b01_1, ne_2_0, ne_3_0, ne_4_0, ne_5_0, ne_6_0, ne_m1_0, ne_m2_0, b01_01, b01_n, lt_m2, lt_m1, le_m2, le_m1, Classical.not_not, Bool.or_false, Bool.false_or, Bool.true_or, Bool.or_true, j_CP_baths_0, b_CP_baths_0, j_CP_baths_21, b_CP_baths_21, j_CP_baths_22, b_CP_baths_22, an_0, an_1, ne_0_1, ne_0_m1, ne_1_0, ne_1_m1, ne_m1_0, ne_m1_1, pp_0_10, pp_0_7, sh_0, sh_15, sh_38]
        refine mid_i ?_
        obtain ⟨k1, k2, k3, k4⟩ := pf_fin (M := prm (rfu I 0) mm) h0 (fun a j ha => by unfold prm; rw [if_neg ha])
        have c1 := (iv_fr h0 k1).1
        refine c_Mod_baths (iv_n6 c1) (iv_n c1) (iv_55 c1) ?_ ?_
        · intro _
          exact fin_i (by rw [k3, if_pos r1]) k4
        · intro e
          exact absurd e (iv_p1 c1 hn)
    · intro hq M' hM
      rcases hb with ⟨r, -⟩ | ⟨r1, mm, as, r2, r3, r4⟩
      · simp only [cp_kk, cp_vc, cp_vs, cp_jm, cp_ent_en, cp_en_int, cp_en_ref, cp_en_ret, cp_en_long, cp_en_nil, cp_s1_at, cp_s2_at, cp_nl_int, cp_nl_ref, cp_nl_long, cp_nl_none, cp_pop_0, cp_pop_s, reduceIte, if_true, if_false, Bool.false_eq_true, Bool.true_eq_false, false_implies, implies_true, forall_const, true_implies, true_and, and_true, and_self, true_or, or_true, false_or, or_false, Value.category, List.length_cons, List.length_nil, Option.toList_some, Option.toList_none, List.cons_append, List.nil_append, List.append_nil, Prod.mk.injEq, Nat.add_zero, Nat.zero_add, Nat.reduceAdd, Nat.reduceSub, Nat.reduceEqDiff, Nat.reduceLeDiff, Nat.reduceLT, Nat.le_refl, beq_self_eq_true, Nat.reduceBEq, ne_eq, not_true_eq_false, not_false_eq_true, Int32.reduceAdd, Int32.reduceSub, Int32.reduceMul, Int32.reduceLE, Int32.reduceLT, Int32.reduceToNatClampNeg, b01_0, b01_1, ne_2_0, ne_3_0, ne_4_0, ne_5_0, ne_6_0, ne_m1_0, ne_m2_0, b01_01, b01_n, lt_m2, lt_m1, le_m2, le_m1, Classical.not_not, Bool.or_false, Bool.false_or, Bool.true_or, Bool.or_true, j_CP_baths_0, b_CP_baths_0, j_CP_baths_21, b_CP_baths_21, j_CP_baths_22, b_CP_baths_22, an_0, an_1, ne_0_1, ne_0_m1, ne_1_0, ne_1_m1, ne_m1_0, ne_m1_1, pp_0_10, pp_0_7, sh_0, sh_15, sh_38]
        refine mid_i ?_
        obtain ⟨k1, k2, k3, k4⟩ := pf_fin (M := M') h0 hM
        have c1 := (iv_fr h0 k1).1
        refine c_Mod_baths (iv_n6 c1) (iv_n c1) (iv_55 c1) ?_ ?_
        · intro _
          exact fin_i (by rw [k3, if_neg (by omega)]) k4
        · intro e
          exact absurd e (iv_p1 c1 hn)
      · rw [hq] at r2
        cases r2
  · intro hn
    simp only [cp_kk, cp_vc, cp_vs, cp_jm, cp_ent_en, cp_en_int, cp_en_ref, cp_en_ret, cp_en_long, cp_en_nil, cp_s1_at, cp_s2_at, cp_nl_int, cp_nl_ref, cp_nl_long, cp_nl_none, cp_pop_0, cp_pop_s, reduceIte, if_true, if_false, Bool.false_eq_true, Bool.true_eq_false, false_implies, implies_true, forall_const, true_implies, true_and, and_true, and_self, true_or, or_true, false_or, or_false, Value.category, List.length_cons, List.length_nil, Option.toList_some, Option.toList_none, List.cons_append, List.nil_append, List.append_nil, Prod.mk.injEq, Nat.add_zero, Nat.zero_add, Nat.reduceAdd, Nat.reduceSub, Nat.reduceEqDiff, Nat.reduceLeDiff, Nat.reduceLT, Nat.le_refl, beq_self_eq_true, Nat.reduceBEq, ne_eq, not_true_eq_false, not_false_eq_true, Int32.reduceAdd, Int32.reduceSub, Int32.reduceMul, Int32.reduceLE, Int32.reduceLT, Int32.reduceToNatClampNeg, b01_0, b01_1, ne_2_0, ne_3_0, ne_4_0, ne_5_0, ne_6_0, ne_m1_0, ne_m2_0, b01_01, b01_n, lt_m2, lt_m1, le_m2, le_m1, Classical.not_not, Bool.or_false, Bool.false_or, Bool.true_or, Bool.or_true, j_CP_baths_0, b_CP_baths_0, j_CP_baths_21, b_CP_baths_21, j_CP_baths_22, b_CP_baths_22, an_0, an_1, ne_0_1, ne_0_m1, ne_1_0, ne_1_m1, ne_m1_0, ne_m1_1, pp_0_10, pp_0_7, sh_0, sh_15, sh_38]
    refine mid_i ?_
    refine c_Mod_baths (iv_n6 b0) (iv_n b0) (iv_55 b0) ?_ ?_
    · intro e
      exact absurd (iv_p0 b0 hn) e
    · intro _
      exact fin_i rfl (iv_rn h0 n14)
theorem fst_at {p : Nat → Bool} {c : Nat} (hc : p c = true) : ∀ (m k : Nat), k ≤ c → c < k + m → (∀ j, k ≤ j → j < c → p j = false) → sp_fst p m k = some c
  | 0, k, h1, h2, _ => by omega
  | m + 1, k, h1, h2, h => by
    show (if p k = true then some k else sp_fst p m (k + 1)) = some c
    by_cases e : k = c
    · subst e
      rw [if_pos hc]
    · rw [h k (by omega) (by omega), if_neg Bool.false_ne_true]
      exact fst_at hc m (k + 1) (by omega) (by omega) (fun j j1 j2 => h j (by omega) j2)
theorem pr_bathOf {bb : Int32} (h : Iv I t u) : PR g d m_CP_bathOf m_Mod_bathOf [.int bb] I J t u r x := by
  obtain ⟨⟨n, s, m, h0⟩, -, -⟩ := h
  have hB := h0.1
  have b0 := (iv_rf h0 1).1
  have b1 := (iv_rf h0 0).1
  have h6 := iv_n6 hB
  unfold PR
  refine MW.of ok_CP_bathOf (Nat.le_of_ble_eq_true rfl) ?_
  refine cp_run 40 (fun _ => false) ck_CP_bathOf ?_
  simp only [cp_vc, cp_vs, cp_jm, cp_ent_en, cp_en_int, cp_en_ref, cp_en_ret, cp_en_long, cp_en_nil, cp_s1_at, cp_s2_at, cp_nl_int, cp_nl_ref, cp_nl_long, cp_nl_none, cp_pop_0, cp_pop_s, reduceIte, if_true, if_false, Bool.false_eq_true, Bool.true_eq_false, false_implies, implies_true, forall_const, true_implies, true_and, and_true, and_self, true_or, or_true, false_or, or_false, Value.category, List.length_cons, List.length_nil, Option.toList_some, Option.toList_none, List.cons_append, List.nil_append, List.append_nil, Prod.mk.injEq, Nat.add_zero, Nat.zero_add, Nat.reduceAdd, Nat.reduceSub, Nat.reduceEqDiff, Nat.reduceLeDiff, Nat.reduceLT, Nat.le_refl, beq_self_eq_true, Nat.reduceBEq, ne_eq, not_true_eq_false, not_false_eq_true, Int32.reduceAdd, Int32.reduceSub, Int32.reduceMul, Int32.reduceLE, Int32.reduceLT, Int32.reduceToNatClampNeg, b01_0, b01_1, ne_2_0, ne_3_0, ne_4_0, ne_5_0, ne_6_0, ne_m1_0, ne_m2_0, b01_01, b01_n, lt_m2, lt_m1, le_m2, le_m1, Classical.not_not, j_CP_bathOf_0, b_CP_bathOf_0, j_CP_bathOf_23, b_CP_bathOf_23, j_CP_bathOf_24, b_CP_bathOf_24, an_0, an_1, ne_0_1, ne_0_m1, ne_1_0, ne_1_m1, ne_m1_0, ne_m1_1, pp_0_10, pp_0_7, sh_0, sh_15, sh_38]
  refine c_CP_isBather (n := n) (iv_tk hB) (iv_n6 hB) (iv_cn hB) ?_ ?_
  · intro b hbn hbb
    subst hbb
    have hb := iv_bt b1 (show 0 < n by omega)
    simp only [cp_kk, cp_vc, cp_vs, cp_jm, cp_ent_en, cp_en_int, cp_en_ref, cp_en_ret, cp_en_long, cp_en_nil, cp_s1_at, cp_s2_at, cp_nl_int, cp_nl_ref, cp_nl_long, cp_nl_none, cp_pop_0, cp_pop_s, reduceIte, if_true, if_false, Bool.false_eq_true, Bool.true_eq_false, false_implies, implies_true, forall_const, true_implies, true_and, and_true, and_self, true_or, or_true, false_or, or_false, Value.category, List.length_cons, List.length_nil, Option.toList_some, Option.toList_none, List.cons_append, List.nil_append, List.append_nil, Prod.mk.injEq, Nat.add_zero, Nat.zero_add, Nat.reduceAdd, Nat.reduceSub, Nat.reduceEqDiff, Nat.reduceLeDiff, Nat.reduceLT, Nat.le_refl, beq_self_eq_true, Nat.reduceBEq, ne_eq, not_true_eq_false, not_false_eq_true, Int32.reduceAdd, Int32.reduceSub, Int32.reduceMul, Int32.reduceLE, Int32.reduceLT, Int32.reduceToNatClampNeg, b01_0, b01_1, ne_2_0, ne_3_0, ne_4_0, ne_5_0, ne_6_0, ne_m1_0, ne_m2_0, b01_01, b01_n, lt_m2, lt_m1, le_m2, le_m1, Classical.not_not, Bool.or_false, Bool.false_or, Bool.true_or, Bool.or_true, j_CP_bathOf_0, b_CP_bathOf_0, j_CP_bathOf_23, b_CP_bathOf_23, j_CP_bathOf_24, b_CP_bathOf_24, an_0, an_1, ne_0_1, ne_0_m1, ne_1_0, ne_1_m1, ne_m1_0, ne_m1_1, pp_0_10, pp_0_7, sh_0, sh_15, sh_38]
    refine c_Part_numberOf (d := d + 13 - n) (by omega) (iv_cT b1) hbn ?_ ?_
    · intro q hq
      rcases hb with ⟨-, r⟩ | ⟨r1, mm, as, r2, r3, r4⟩
      · rw [hq] at r
        cases r
      · rw [hq] at r2
        cases r2
        obtain ⟨w1, w2, w3⟩ := r4 b hbn
        have ef : sp_fst (fun k => (mm k).testBit b) (rbq (rfu I 0) n).1 0 = some (as b) := fst_at (p := fun k => (mm k).testBit b) (c := as b) ((w3 _).mpr rfl) _ 0 (by omega) (by omega) (fun j _ hj => by
          cases e : (mm j).testBit b with
          | false => rfl
          | true =>
            have := (w3 j).mp e
            omega)
        rw [ef]
        simp only [cp_kk, cp_vc, cp_vs, cp_jm, cp_ent_en, cp_en_int, cp_en_ref, cp_en_ret, cp_en_long, cp_en_nil, cp_s1_at, cp_s2_at, cp_nl_int, cp_nl_ref, cp_nl_long, cp_nl_none, cp_pop_0, cp_pop_s, reduceIte, if_true, if_false, Bool.false_eq_true, Bool.true_eq_false, false_implies, implies_true, forall_const, true_implies, true_and, and_true, and_self, true_or, or_true, false_or, or_false, Value.category, List.length_cons, List.length_nil, Option.toList_some, Option.toList_none, List.cons_append, List.nil_append, List.append_nil, Prod.mk.injEq, Nat.add_zero, Nat.zero_add, Nat.reduceAdd, Nat.reduceSub, Nat.reduceEqDiff, Nat.reduceLeDiff, Nat.reduceLT, Nat.le_refl, beq_self_eq_true, Nat.reduceBEq, ne_eq, not_true_eq_false, not_false_eq_true, Int32.reduceAdd, Int32.reduceSub, Int32.reduceMul, Int32.reduceLE, Int32.reduceLT, Int32.reduceToNatClampNeg, b01_0, b01_1, ne_2_0, ne_3_0, ne_4_0, ne_5_0, ne_6_0, ne_m1_0, ne_m2_0, b01_01, b01_n, lt_m2, lt_m1, le_m2, le_m1, Classical.not_not, Bool.or_false, Bool.false_or, Bool.true_or, Bool.or_true, j_CP_bathOf_0, b_CP_bathOf_0, j_CP_bathOf_23, b_CP_bathOf_23, j_CP_bathOf_24, b_CP_bathOf_24, an_0, an_1, ne_0_1, ne_0_m1, ne_1_0, ne_1_m1, ne_m1_0, ne_m1_1, pp_0_10, pp_0_7, sh_0, sh_15, sh_38, oI]
        refine mid_i ?_
        obtain ⟨k1, k2, k3, k4⟩ := pf_fin (M := prm (rfu I 0) mm) h0 (fun a j ha => by unfold prm; rw [if_neg ha])
        have c1 := (iv_fr h0 k1).1
        refine c_Mod_bathOf (iv_n6 c1) (iv_n c1) (iv_55 c1) ?_ ?_
        · intro b' _ e hb'
          have e' : b = b' := (nI_eq (by omega) (by omega)).1 e
          subst e'
          exact fin_i (by rw [k3, if_pos r1, w1]) k4
        · intro e
          exact absurd (iv_isB c1 hbn) e
    · intro hq M' hM
      rcases hb with ⟨r, -⟩ | ⟨r1, mm, as, r2, r3, r4⟩
      · simp only [cp_kk, cp_vc, cp_vs, cp_jm, cp_ent_en, cp_en_int, cp_en_ref, cp_en_ret, cp_en_long, cp_en_nil, cp_s1_at, cp_s2_at, cp_nl_int, cp_nl_ref, cp_nl_long, cp_nl_none, cp_pop_0, cp_pop_s, reduceIte, if_true, if_false, Bool.false_eq_true, Bool.true_eq_false, false_implies, implies_true, forall_const, true_implies, true_and, and_true, and_self, true_or, or_true, false_or, or_false, Value.category, List.length_cons, List.length_nil, Option.toList_some, Option.toList_none, List.cons_append, List.nil_append, List.append_nil, Prod.mk.injEq, Nat.add_zero, Nat.zero_add, Nat.reduceAdd, Nat.reduceSub, Nat.reduceEqDiff, Nat.reduceLeDiff, Nat.reduceLT, Nat.le_refl, beq_self_eq_true, Nat.reduceBEq, ne_eq, not_true_eq_false, not_false_eq_true, Int32.reduceAdd, Int32.reduceSub, Int32.reduceMul, Int32.reduceLE, Int32.reduceLT, Int32.reduceToNatClampNeg, b01_0, b01_1, ne_2_0, ne_3_0, ne_4_0, ne_5_0, ne_6_0, ne_m1_0, ne_m2_0, b01_01, b01_n, lt_m2, lt_m1, le_m2, le_m1, Classical.not_not, Bool.or_false, Bool.false_or, Bool.true_or, Bool.or_true, j_CP_bathOf_0, b_CP_bathOf_0, j_CP_bathOf_23, b_CP_bathOf_23, j_CP_bathOf_24, b_CP_bathOf_24, an_0, an_1, ne_0_1, ne_0_m1, ne_1_0, ne_1_m1, ne_m1_0, ne_m1_1, pp_0_10, pp_0_7, sh_0, sh_15, sh_38]
        refine mid_i ?_
        obtain ⟨k1, k2, k3, k4⟩ := pf_fin (M := M') h0 hM
        have c1 := (iv_fr h0 k1).1
        refine c_Mod_bathOf (iv_n6 c1) (iv_n c1) (iv_55 c1) ?_ ?_
        · intro b' _ e hb'
          exact fin_i (by rw [k3, if_neg (by omega)]) k4
        · intro e
          exact absurd (iv_isB c1 hbn) e
      · rw [hq] at r2
        cases r2
  · intro hb
    simp only [cp_kk, cp_vc, cp_vs, cp_jm, cp_ent_en, cp_en_int, cp_en_ref, cp_en_ret, cp_en_long, cp_en_nil, cp_s1_at, cp_s2_at, cp_nl_int, cp_nl_ref, cp_nl_long, cp_nl_none, cp_pop_0, cp_pop_s, reduceIte, if_true, if_false, Bool.false_eq_true, Bool.true_eq_false, false_implies, implies_true, forall_const, true_implies, true_and, and_true, and_self, true_or, or_true, false_or, or_false, Value.category, List.length_cons, List.length_nil, Option.toList_some, Option.toList_none, List.cons_append, List.nil_append, List.append_nil, Prod.mk.injEq, Nat.add_zero, Nat.zero_add, Nat.reduceAdd, Nat.reduceSub, Nat.reduceEqDiff, Nat.reduceLeDiff, Nat.reduceLT, Nat.le_refl, beq_self_eq_true, Nat.reduceBEq, ne_eq, not_true_eq_false, not_false_eq_true, Int32.reduceAdd, Int32.reduceSub, Int32.reduceMul, Int32.reduceLE, Int32.reduceLT, Int32.reduceToNatClampNeg, b01_0, b01_1, ne_2_0, ne_3_0, ne_4_0, ne_5_0, ne_6_0, ne_m1_0, ne_m2_0, b01_01, b01_n, lt_m2, lt_m1, le_m2, le_m1, Classical.not_not, Bool.or_false, Bool.false_or, Bool.true_or, Bool.or_true, j_CP_bathOf_0, b_CP_bathOf_0, j_CP_bathOf_23, b_CP_bathOf_23, j_CP_bathOf_24, b_CP_bathOf_24, an_0, an_1, ne_0_1, ne_0_m1, ne_1_0, ne_1_m1, ne_m1_0, ne_m1_1, pp_0_10, pp_0_7, sh_0, sh_15, sh_38]
    refine mid_i ?_
    refine c_Mod_bathOf (iv_n6 b0) (iv_n b0) (iv_55 b0) ?_ ?_
    · intro b e
      exact absurd e (iv_noB b0 hb)
    · intro _
      exact fin_i rfl (iv_rn h0 n14)
end Prb
