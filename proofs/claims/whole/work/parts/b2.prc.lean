section Prc
variable {g : cp_G} {d : Nat} {I M N : cp_I} {J : cp_J} {Q : cp_QT} {t u r x n s m : Nat}
theorem need200 {k : Int32} {e : Nat} (he : e ≤ 99) : sp_need k (nI e) ≤ 200 := by
  have key : ∀ e : Nat, e < 100 → nI e + 5 ≤ 200 ∧ (if 5 < nI e then nI e - 5 else 0) ≤ 200 ∧ nI e ≤ 200 := by decide +kernel
  obtain ⟨k1, k2, k3⟩ := key e (by omega)
  unfold sp_need
  split
  · exact k1
  · split
    · exact k2
    · exact k3
theorem iv_200 (h : ivB I t n s m) {z : Nat} (hz : z < 2 ^ n) : I 29 z ≤ 200 := by
  rw [iv_nds h hz, gr_le]
  refine ⟨by decide +kernel, fun b _ hb _ => ?_⟩
  obtain ⟨e, e1, e2⟩ := (iv_tw h).1.2.2.2.2 b (by omega)
  unfold rn
  rw [e2]
  exact need200 e1
theorem neg_t {v : Nat} (h : v ≤ 9) : (nI v).toInt = v ∧ (-nI v).toInt = -v := by
  have key : ∀ v : Nat, v < 10 → (nI v).toInt = v ∧ (-nI v).toInt = -v := by decide +kernel
  exact key v (by omega)
theorem iv_tb9 (h : ivB I t n s m) {a b : Nat} (ha : a < 6) (hb : b < 6) : -9 ≤ (rt I 49 a b).toInt ∧ (rt I 49 a b).toInt ≤ 9 := by
  rw [iv_rt h ha hb]
  unfold ctm
  rw [(iv_fr4 h).2.2.1 a b ha hb]
  split
  · decide +kernel
  · obtain ⟨v, v1, v2⟩ := ((iv_tw h).2.1 a b ha hb).2.2.2.2.2
    have := neg_t v1
    rcases v2 with e | e
    · rw [e, this.1]
      omega
    · rw [e, this.2]
      omega
theorem iv_sum2 (h : ivB I t n s m) {z : Nat} (hz : z < 2 ^ n) : I 28 z = sp_sum n (I 47 1) (tT (tr0 I)) z (I 47 0) := by
  have h6 := iv_n6 h
  rw [((iv_bOK h).2 z hz).1, iv_sum h, (iv_hd h).1, (iv_hd h).2.1]
  refine fo_congr n 0 _ (fun a _ ha y => fo_congr a 0 y (fun b _ hb y => ?_))
  unfold sp_row sp_pr tT tr0 rt
  rw [if_pos (show 6 * a + b < 39 by omega)]
theorem iv_ch (h : ivB I t n s m) : ∃ ch, ch ≤ 9 ∧ I 47 1 = nI ch := (iv_tw h).1.2.1
theorem iv_wb (h : ivB I t n s m) {z : Nat} (hz : z < 2 ^ n) : -400 ≤ (I 28 z).toInt ∧ (I 28 z).toInt ≤ 400 := by
  have h6 := iv_n6 h
  obtain ⟨ch, c1, c2⟩ := iv_ch h
  obtain ⟨w0, w1, w2⟩ := (iv_tw h).1.1
  rw [((iv_bOK h).2 z hz).1, iv_sum h, (iv_hd h).1, (iv_hd h).2.1, sum_D (fun a b ha hb => by rw [iv_rt h (by omega) (by omega), iv_rt h (by omega) (by omega)]; exact ctm_sym h m (by omega) (by omega)), w2]
  have hfm : ∀ a b, a < 6 → b < 6 → -9 ≤ (fm (rt I 49) z (I 47 1) a b).toInt ∧ (fm (rt I 49) z (I 47 1) a b).toInt ≤ 9 := fun a b ha hb => by
    unfold fm sp_pr
    split
    · split
      · rw [c2, (neg_t c1).2]
        omega
      · exact iv_tb9 h ha hb
    · decide +kernel
  have hD : -324 ≤ (sD n (fm (rt I 49) z (I 47 1))).toInt ∧ (sD n (fm (rt I 49) z (I 47 1))).toInt ≤ 324 := by
    have := Sg_bd (f := fun b => Sg (fun a => fm (rt I 49) z (I 47 1) a b) b) (B := 54) (by omega) n h6 (by omega) (fun b hb => by
      have := Sg_bd (f := fun a => fm (rt I 49) z (I 47 1) a b) (B := 9) (by omega) b (by omega) (by omega) (fun a ha => hfm a b (by omega) (by omega))
      omega)
    unfold sD
    omega
  rw [t_add (by rw [nI_toInt (by omega)]; omega) (by rw [nI_toInt (by omega)]; omega), nI_toInt (by omega)]
  omega
theorem iv_m0 (h : ivB I t n s m) {z l : Nat} (hz : z < 2 ^ n) (hl : l ≤ 3) : mR I n z (rf I n) (rk I n 49) l (tr0 I) (I 28 z) := by
  have h6 := iv_n6 h
  have hw := iv_wb h hz
  have et : ∀ a b, a < 6 → b < 6 → tr0 I (6 * a + b) = rt I 49 a b := fun a b ha hb => by
    unfold tr0 rt
    rw [if_pos (by omega)]
  refine ⟨fun a b ha hb => ?_, fun a ha => ⟨set_cong (fun o ho => by rw [et a o (by omega) (by omega)]), set_cong (fun o ho => by rw [et a o (by omega) (by omega)])⟩, iv_sum2 h hz, by omega, by omega⟩
  rw [et a b ha hb, et b a hb ha, iv_rt h ha hb, iv_rt h hb ha]
  exact ctm_sym h m ha hb
theorem fi_at {p : Nat → Option Nat} {c a : Nat} (hc : p c = some a) : ∀ (m k : Nat), k ≤ c → c < k + m → (∀ j, k ≤ j → j < c → p j = none) → fi p m k = some a
  | 0, k, h1, h2, _ => by omega
  | m + 1, k, h1, h2, h => by
    rw [fi]
    by_cases e : k = c
    · subst e
      rw [hc]
    · rw [h k (by omega) (by omega)]
      exact fi_at hc m (k + 1) (by omega) (by omega) (fun j j1 j2 => h j (by omega) j2)
theorem iv_few (h : ivB I t n s m) {z : Nat} (hz : z < 2 ^ n) : (cfw (I t 1) (I 29 z) (rk I n 49) (rf I n) z n (I 28 z) 4 0 = none ∧ rfK I n z = none ∧ rfP I n z = -2) ∨ ∃ k o, cfw (I t 1) (I 29 z) (rk I n 49) (rf I n) z n (I 28 z) 4 0 = some (k, o) ∧ rfK I n z = some k ∧ rfP I n z = ieF (-2) o := by
  have h6 := iv_n6 h
  obtain ⟨ch, c1, c2⟩ := iv_ch h
  have e : ∀ k, k ≤ 3 → sp_ie (I t 1) (I 29 z) (rf I n) z n k (rk I n 49) (I 28 z) = (tmk I n z k).map (fun v => if k = 0 then none else some v) := fun k hk => by
    rw [(iv_hd h).2.1]
    exact meet_eq h6 hz c1 c2 (iv_nds h hz) (iv_200 h hz) k _ _ _ hk (iv_m0 h hz hk)
  by_cases hex : ∃ k, k < 4 ∧ (tmk I n z k).isSome = true
  · right
    obtain ⟨k, ⟨hk4, hk⟩, hmin⟩ := pk_least (fun k => k < 4 ∧ (tmk I n z k).isSome = true) hex
    have hno : ∀ j, j < k → tmk I n z j = none := fun j hj => by
      cases q : tmk I n z j with
      | none => rfl
      | some v => exact absurd ⟨by omega, by rw [q]; rfl⟩ (hmin j hj)
    obtain ⟨v, hv⟩ := Option.isSome_iff_exists.mp hk
    have eK : rfK I n z = some k := by
      unfold rfK
      exact fi_at (c := k) (by rw [if_pos hk]) 4 0 (by omega) (by omega) (fun j _ hj => by rw [hno j hj]; rfl)
    refine ⟨k, if k = 0 then none else some v, ?_, eK, ?_⟩
    · unfold cfw
      exact fiO_at (c := k) (by rw [e k (by omega), hv]; rfl) 4 0 (by omega) (by omega) (fun j _ hj => by rw [e j (by omega), hno j hj]; rfl)
    · unfold rfP
      rw [eK]
      cases k with
      | zero => rfl
      | succ k =>
        rw [if_neg (by omega)]
        show oI (tmk I n z (k + 1)) = nI v
        rw [hv]
        rfl
  · left
    have hno : ∀ j, j < 4 → tmk I n z j = none := fun j hj => by
      cases q : tmk I n z j with
      | none => rfl
      | some v => exact absurd ⟨j, hj, by rw [q]; rfl⟩ hex
    have eK : rfK I n z = none := by
      unfold rfK
      exact fi_no 4 0 (fun j _ hj => by rw [hno j (by omega)]; rfl)
    refine ⟨?_, eK, ?_⟩
    · unfold cfw
      exact fiO_no 4 0 (fun j _ hj => by rw [e j (by omega), hno j (by omega)]; rfl)
    · unfold rfP
      rw [eK]
theorem tmk_k (e47 : M 47 = I 47) (e49 : M 49 = I 49) (e56 : M 56 = I 56) : tmk M n = tmk I n := by
  funext z k
  have e1 : (fun T => rs (od M 56 T) n 56 z) = (fun T => rs (od I 56 T) n 56 z) := by
    funext T
    have er : rn M = rn I := by funext b; unfold rn; rw [e47]
    rw [rs_od, rs_od, er, e47]
  have e2 : (fun T => rm_ (od M 56 T) n 56) = (fun T => rm_ (od I 56 T) n 56) := by
    funext T a b
    have ek : ∀ (X : cp_I) c, rk (od X 56 T) n 56 c = sp_set n (fun o => decide (0 < T (6 * c + o))) := fun X c => by
      unfold rk rt od
      exact set_cong (fun o _ => by rw [if_pos rfl])
    have et : ∀ X : cp_I, rt (od X 56 T) 56 a b = T (6 * a + b) := fun X => by
      unfold rt od
      rw [if_pos rfl]
    unfold rm_
    rw [ek, ek, ek, ek, et, et]
  have e3 : tr0 M = tr0 I := by
    funext j
    unfold tr0
    rw [e49, e56]
  unfold tmk
  rw [e1, e2, e3]
theorem rfK_k (e47 : M 47 = I 47) (e49 : M 49 = I 49) (e56 : M 56 = I 56) (z : Nat) : rfK M n z = rfK I n z ∧ rfP M n z = rfP I n z := by
  have e := tmk_k (n := n) e47 e49 e56
  have e1 : rfK M n z = rfK I n z := by unfold rfK; rw [e]
  refine ⟨e1, ?_⟩
  unfold rfP
  rw [e1, e]
theorem imk_q {kk : Nat → Nat} {v : Int32} {a j : Nat} (h1 : ¬ a = 41) (h2 : ¬ a = 40) : imk n I kk v a j = I a j := by
  unfold imk
  rw [if_neg (by omega), if_neg (by omega)]
theorem meet_fin (h0 : Iv0 I t u n s m) (kk : Nat → Nat) (v : Int32) (w : Int32) : kp I (imk n (rfu I 0) kk v) ∧ (∀ z, rfK (imk n (rfu I 0) kk v) n z = rfK (rfu I 0) n z ∧ rfP (imk n (rfu I 0) kk v) n z = rfP (rfu I 0) n z) ∧ Iv (rfM (gd (imk n (rfu I 0) kk v)) w) t u := by
  have k : kp I (imk n (rfu I 0) kk v) := kp_of (kp_rfu kp_r 0) (fun a j ha => imk_q (by have := wc_ne ha; omega) (by have := wc_ne ha; omega)) (fun j _ => imk_q (by omega) (by omega)) (fun j _ => imk_q (by omega) (by omega))
  refine ⟨k, fun z => rfK_k (funext fun j => imk_q (by omega) (by omega)) (funext fun j => imk_q (by omega) (by omega)) (funext fun j => imk_q (by omega) (by omega)) z, ?_⟩
  unfold rfM
  refine iv_gk h0 k (by rw [imk_q (by omega) (by omega)]; exact rfu_2) (kp_od (kp_44 kp_r _ (by unfold k44; omega)) _ (by decide) (by omega) (by omega)) ?_ ?_
  · unfold od
    rw [if_neg (by omega), cp_u_at, if_neg (by omega)]
  · unfold od
    rw [if_neg (by omega), cp_u_at, if_neg (by omega)]
theorem iv_sy (h : ivB I t n s m) : symR (I 49) := fun a b ha hb => by
  have e1 := iv_rt h ha hb
  have e2 := iv_rt h hb ha
  unfold rt at e1 e2
  rw [e1, e2]
  exact ctm_sym h m ha hb
theorem pr_fewest {a : Int32} (h : Iv I t u) : PR g d m_CP_fewest m_Mod_fewest [.int a] I J t u r x := by
  obtain ⟨⟨n, s, m, h0⟩, -, -⟩ := h
  have hB := h0.1
  have b0 := (iv_rf h0 1).1
  have b1 := (iv_rf h0 0).1
  have b2 := (iv_rf h0 2).1
  unfold PR
  refine MW.of ok_CP_fewest (Nat.le_of_ble_eq_true rfl) ?_
  refine cp_run 40 (fun _ => false) ck_CP_fewest ?_
  simp only [cp_vc, cp_vs, cp_jm, cp_ent_en, cp_en_int, cp_en_ref, cp_en_ret, cp_en_long, cp_en_nil, cp_s1_at, cp_s2_at, cp_nl_int, cp_nl_ref, cp_nl_long, cp_nl_none, cp_pop_0, cp_pop_s, reduceIte, if_true, if_false, Bool.false_eq_true, Bool.true_eq_false, false_implies, implies_true, forall_const, true_implies, true_and, and_true, and_self, true_or, or_true, false_or, or_false, Value.category, List.length_cons, List.length_nil, Option.toList_some, Option.toList_none, List.cons_append, List.nil_append, List.append_nil, Prod.mk.injEq, Nat.add_zero, Nat.zero_add, Nat.reduceAdd, Nat.reduceSub, Nat.reduceEqDiff, Nat.reduceLeDiff, Nat.reduceLT, Nat.le_refl, beq_self_eq_true, Nat.reduceBEq, ne_eq, not_true_eq_false, not_false_eq_true, Int32.reduceAdd, Int32.reduceSub, Int32.reduceMul, Int32.reduceLE, Int32.reduceLT, Int32.reduceToNatClampNeg, b01_0, b01_1, ne_2_0, ne_3_0, ne_4_0, ne_5_0, ne_6_0, ne_m1_0, ne_m2_0, b01_01, b01_n, lt_m2, lt_m1, le_m2, le_m1, Classical.not_not, j_CP_fewest_0, b_CP_fewest_0, j_CP_fewest_23, b_CP_fewest_23, j_CP_fewest_24, b_CP_fewest_24, an_0, an_1, ne_0_1, ne_0_m1, ne_1_0, ne_1_m1, ne_m1_0, ne_m1_1, pp_0_11, pp_0_7, sh_0, sh_15, sh_40]
  refine c_CP_isCompany (n := n) (iv_tk hB) (iv_n6 hB) (iv_cn hB) ?_ ?_ ?_
  · intro z hn hz ha
    subst ha
    have hz6 : z < 64 := Nat.lt_of_lt_of_le hz (pw64 (iv_n6 hB))
    have hfw := iv_few b1 hz
    simp only [cp_kk, cp_vc, cp_vs, cp_jm, cp_ent_en, cp_en_int, cp_en_ref, cp_en_ret, cp_en_long, cp_en_nil, cp_s1_at, cp_s2_at, cp_nl_int, cp_nl_ref, cp_nl_long, cp_nl_none, cp_pop_0, cp_pop_s, reduceIte, if_true, if_false, Bool.false_eq_true, Bool.true_eq_false, false_implies, implies_true, forall_const, true_implies, true_and, and_true, and_self, true_or, or_true, false_or, or_false, Value.category, List.length_cons, List.length_nil, Option.toList_some, Option.toList_none, List.cons_append, List.nil_append, List.append_nil, Prod.mk.injEq, Nat.add_zero, Nat.zero_add, Nat.reduceAdd, Nat.reduceSub, Nat.reduceEqDiff, Nat.reduceLeDiff, Nat.reduceLT, Nat.le_refl, beq_self_eq_true, Nat.reduceBEq, ne_eq, not_true_eq_false, not_false_eq_true, Int32.reduceAdd, Int32.reduceSub, Int32.reduceMul, Int32.reduceLE, Int32.reduceLT, Int32.reduceToNatClampNeg, b01_0, b01_1, ne_2_0, ne_3_0, ne_4_0, ne_5_0, ne_6_0, ne_m1_0, ne_m2_0, b01_01, b01_n, lt_m2, lt_m1, le_m2, le_m1, Classical.not_not, Bool.or_false, Bool.false_or, Bool.true_or, Bool.or_true, j_CP_fewest_0, b_CP_fewest_0, j_CP_fewest_23, b_CP_fewest_23, j_CP_fewest_24, b_CP_fewest_24, an_0, an_1, ne_0_1, ne_0_m1, ne_1_0, ne_1_m1, ne_m1_0, ne_m1_1, pp_0_11, pp_0_7, sh_0, sh_15, sh_40]
    refine c_Intro_fewestFor (iv_cT b1) hz6 (iv_KF b1) ?_ ?_
    · intro q hq
      rcases hfw with ⟨r1, r2, r3⟩ | ⟨k, o, r1, r2, r3⟩
      · rw [hq] at r1
        cases r1
      · rw [hq] at r1
        cases r1
        simp only [cp_kk, cp_vc, cp_vs, cp_jm, cp_ent_en, cp_en_int, cp_en_ref, cp_en_ret, cp_en_long, cp_en_nil, cp_s1_at, cp_s2_at, cp_nl_int, cp_nl_ref, cp_nl_long, cp_nl_none, cp_pop_0, cp_pop_s, reduceIte, if_true, if_false, Bool.false_eq_true, Bool.true_eq_false, false_implies, implies_true, forall_const, true_implies, true_and, and_true, and_self, true_or, or_true, false_or, or_false, Value.category, List.length_cons, List.length_nil, Option.toList_some, Option.toList_none, List.cons_append, List.nil_append, List.append_nil, Prod.mk.injEq, Nat.add_zero, Nat.zero_add, Nat.reduceAdd, Nat.reduceSub, Nat.reduceEqDiff, Nat.reduceLeDiff, Nat.reduceLT, Nat.le_refl, beq_self_eq_true, Nat.reduceBEq, ne_eq, not_true_eq_false, not_false_eq_true, Int32.reduceAdd, Int32.reduceSub, Int32.reduceMul, Int32.reduceLE, Int32.reduceLT, Int32.reduceToNatClampNeg, b01_0, b01_1, ne_2_0, ne_3_0, ne_4_0, ne_5_0, ne_6_0, ne_m1_0, ne_m2_0, b01_01, b01_n, lt_m2, lt_m1, le_m2, le_m1, Classical.not_not, Bool.or_false, Bool.false_or, Bool.true_or, Bool.or_true, j_CP_fewest_0, b_CP_fewest_0, j_CP_fewest_23, b_CP_fewest_23, j_CP_fewest_24, b_CP_fewest_24, an_0, an_1, ne_0_1, ne_0_m1, ne_1_0, ne_1_m1, ne_m1_0, ne_m1_1, pp_0_11, pp_0_7, sh_0, sh_15, sh_40]
        refine mid_i ?_
        obtain ⟨k1, k2, k3⟩ := meet_fin h0 (rk (rfu I 0) n 49) (ieF (-2) o) (rfP (imk n (rfu I 0) (rk (rfu I 0) n 49) (ieF (-2) o)) n z)
        have c1 := (iv_fr h0 k1).1
        refine c_Mod_fewest (iv_n6 c1) (iv_n c1) (iv_01 c1) (iv_sy c1) ?_ ?_
        · intro z' _ hz' e
          have e' : z = z' := (nI_eq (by omega) (by omega)).1 e
          subst e'
          exact fin_i (by rw [(k2 z).1, r2]; rfl) k3
        · intro e
          exact absurd (iv_sw c1 hn hz) e
    · intro hq
      rcases hfw with ⟨r1, r2, r3⟩ | ⟨k, o, r1, r2, r3⟩
      · simp only [cp_kk, cp_vc, cp_vs, cp_jm, cp_ent_en, cp_en_int, cp_en_ref, cp_en_ret, cp_en_long, cp_en_nil, cp_s1_at, cp_s2_at, cp_nl_int, cp_nl_ref, cp_nl_long, cp_nl_none, cp_pop_0, cp_pop_s, reduceIte, if_true, if_false, Bool.false_eq_true, Bool.true_eq_false, false_implies, implies_true, forall_const, true_implies, true_and, and_true, and_self, true_or, or_true, false_or, or_false, Value.category, List.length_cons, List.length_nil, Option.toList_some, Option.toList_none, List.cons_append, List.nil_append, List.append_nil, Prod.mk.injEq, Nat.add_zero, Nat.zero_add, Nat.reduceAdd, Nat.reduceSub, Nat.reduceEqDiff, Nat.reduceLeDiff, Nat.reduceLT, Nat.le_refl, beq_self_eq_true, Nat.reduceBEq, ne_eq, not_true_eq_false, not_false_eq_true, Int32.reduceAdd, Int32.reduceSub, Int32.reduceMul, Int32.reduceLE, Int32.reduceLT, Int32.reduceToNatClampNeg, b01_0, b01_1, ne_2_0, ne_3_0, ne_4_0, ne_5_0, ne_6_0, ne_m1_0, ne_m2_0, b01_01, b01_n, lt_m2, lt_m1, le_m2, le_m1, Classical.not_not, Bool.or_false, Bool.false_or, Bool.true_or, Bool.or_true, j_CP_fewest_0, b_CP_fewest_0, j_CP_fewest_23, b_CP_fewest_23, j_CP_fewest_24, b_CP_fewest_24, an_0, an_1, ne_0_1, ne_0_m1, ne_1_0, ne_1_m1, ne_m1_0, ne_m1_1, pp_0_11, pp_0_7, sh_0, sh_15, sh_40]
        refine mid_i ?_
        obtain ⟨k1, k2, k3⟩ := meet_fin h0 (rk (rfu I 0) n 49) (-2) (rfP (imk n (rfu I 0) (rk (rfu I 0) n 49) (-2)) n z)
        have c1 := (iv_fr h0 k1).1
        refine c_Mod_fewest (iv_n6 c1) (iv_n c1) (iv_01 c1) (iv_sy c1) ?_ ?_
        · intro z' _ hz' e
          have e' : z = z' := (nI_eq (by omega) (by omega)).1 e
          subst e'
          exact fin_i (by rw [(k2 z).1, r2]; rfl) k3
        · intro e
          exact absurd (iv_sw c1 hn hz) e
      · rw [hq] at r1
        cases r1
  · intro hn hno
    simp only [cp_kk, cp_vc, cp_vs, cp_jm, cp_ent_en, cp_en_int, cp_en_ref, cp_en_ret, cp_en_long, cp_en_nil, cp_s1_at, cp_s2_at, cp_nl_int, cp_nl_ref, cp_nl_long, cp_nl_none, cp_pop_0, cp_pop_s, reduceIte, if_true, if_false, Bool.false_eq_true, Bool.true_eq_false, false_implies, implies_true, forall_const, true_implies, true_and, and_true, and_self, true_or, or_true, false_or, or_false, Value.category, List.length_cons, List.length_nil, Option.toList_some, Option.toList_none, List.cons_append, List.nil_append, List.append_nil, Prod.mk.injEq, Nat.add_zero, Nat.zero_add, Nat.reduceAdd, Nat.reduceSub, Nat.reduceEqDiff, Nat.reduceLeDiff, Nat.reduceLT, Nat.le_refl, beq_self_eq_true, Nat.reduceBEq, ne_eq, not_true_eq_false, not_false_eq_true, Int32.reduceAdd, Int32.reduceSub, Int32.reduceMul, Int32.reduceLE, Int32.reduceLT, Int32.reduceToNatClampNeg, b01_0, b01_1, ne_2_0, ne_3_0, ne_4_0, ne_5_0, ne_6_0, ne_m1_0, ne_m2_0, b01_01, b01_n, lt_m2, lt_m1, le_m2, le_m1, Classical.not_not, Bool.or_false, Bool.false_or, Bool.true_or, Bool.or_true, j_CP_fewest_0, b_CP_fewest_0, j_CP_fewest_23, b_CP_fewest_23, j_CP_fewest_24, b_CP_fewest_24, an_0, an_1, ne_0_1, ne_0_m1, ne_1_0, ne_1_m1, ne_m1_0, ne_m1_1, pp_0_11, pp_0_7, sh_0, sh_15, sh_40]
    refine mid_i ?_
    refine c_Mod_fewest (iv_n6 b2) (iv_n b2) (iv_01 b2) (iv_sy b2) ?_ ?_
    · intro z' e
      rw [iv_sw2 b2 hn hno] at e
      exact absurd e (by decide +kernel)
    · intro _
      rw [iv_sw2 b2 hn hno]
      exact fin_i rfl (iv_rn h0 n24)
  · intro hn
    simp only [cp_kk, cp_vc, cp_vs, cp_jm, cp_ent_en, cp_en_int, cp_en_ref, cp_en_ret, cp_en_long, cp_en_nil, cp_s1_at, cp_s2_at, cp_nl_int, cp_nl_ref, cp_nl_long, cp_nl_none, cp_pop_0, cp_pop_s, reduceIte, if_true, if_false, Bool.false_eq_true, Bool.true_eq_false, false_implies, implies_true, forall_const, true_implies, true_and, and_true, and_self, true_or, or_true, false_or, or_false, Value.category, List.length_cons, List.length_nil, Option.toList_some, Option.toList_none, List.cons_append, List.nil_append, List.append_nil, Prod.mk.injEq, Nat.add_zero, Nat.zero_add, Nat.reduceAdd, Nat.reduceSub, Nat.reduceEqDiff, Nat.reduceLeDiff, Nat.reduceLT, Nat.le_refl, beq_self_eq_true, Nat.reduceBEq, ne_eq, not_true_eq_false, not_false_eq_true, Int32.reduceAdd, Int32.reduceSub, Int32.reduceMul, Int32.reduceLE, Int32.reduceLT, Int32.reduceToNatClampNeg, b01_0, b01_1, ne_2_0, ne_3_0, ne_4_0, ne_5_0, ne_6_0, ne_m1_0, ne_m2_0, b01_01, b01_n, lt_m2, lt_m1, le_m2, le_m1, Classical.not_not, Bool.or_false, Bool.false_or, Bool.true_or, Bool.or_true, j_CP_fewest_0, b_CP_fewest_0, j_CP_fewest_23, b_CP_fewest_23, j_CP_fewest_24, b_CP_fewest_24, an_0, an_1, ne_0_1, ne_0_m1, ne_1_0, ne_1_m1, ne_m1_0, ne_m1_1, pp_0_11, pp_0_7, sh_0, sh_15, sh_40]
    refine mid_i ?_
    refine c_Mod_fewest (iv_n6 b0) (iv_n b0) (iv_01 b0) (iv_sy b0) ?_ ?_
    · intro z' e
      rw [iv_sw0 b0 hn] at e
      exact absurd e (by decide +kernel)
    · intro _
      rw [iv_sw0 b0 hn]
      exact fin_i rfl (iv_rn h0 n14)
theorem pr_firstMeeting {a : Int32} (h : Iv I t u) : PR g d m_CP_firstMeeting m_Mod_firstMeeting [.int a] I J t u r x := by
  obtain ⟨⟨n, s, m, h0⟩, -, -⟩ := h
  have hB := h0.1
  have b0 := (iv_rf h0 1).1
  have b1 := (iv_rf h0 0).1
  have b2 := (iv_rf h0 2).1
  unfold PR
  refine MW.of ok_CP_firstMeeting (Nat.le_of_ble_eq_true rfl) ?_
  refine cp_run 40 (fun _ => false) ck_CP_firstMeeting ?_
  simp only [cp_vc, cp_vs, cp_jm, cp_ent_en, cp_en_int, cp_en_ref, cp_en_ret, cp_en_long, cp_en_nil, cp_s1_at, cp_s2_at, cp_nl_int, cp_nl_ref, cp_nl_long, cp_nl_none, cp_pop_0, cp_pop_s, reduceIte, if_true, if_false, Bool.false_eq_true, Bool.true_eq_false, false_implies, implies_true, forall_const, true_implies, true_and, and_true, and_self, true_or, or_true, false_or, or_false, Value.category, List.length_cons, List.length_nil, Option.toList_some, Option.toList_none, List.cons_append, List.nil_append, List.append_nil, Prod.mk.injEq, Nat.add_zero, Nat.zero_add, Nat.reduceAdd, Nat.reduceSub, Nat.reduceEqDiff, Nat.reduceLeDiff, Nat.reduceLT, Nat.le_refl, beq_self_eq_true, Nat.reduceBEq, ne_eq, not_true_eq_false, not_false_eq_true, Int32.reduceAdd, Int32.reduceSub, Int32.reduceMul, Int32.reduceLE, Int32.reduceLT, Int32.reduceToNatClampNeg, b01_0, b01_1, ne_2_0, ne_3_0, ne_4_0, ne_5_0, ne_6_0, ne_m1_0, ne_m2_0, b01_01, b01_n, lt_m2, lt_m1, le_m2, le_m1, Classical.not_not, j_CP_firstMeeting_0, b_CP_firstMeeting_0, j_CP_firstMeeting_23, b_CP_firstMeeting_23, j_CP_firstMeeting_24, b_CP_firstMeeting_24, an_0, an_1, ne_0_1, ne_0_m1, ne_1_0, ne_1_m1, ne_m1_0, ne_m1_1, pp_0_11, pp_0_7, sh_0, sh_15, sh_40]
  refine c_CP_isCompany (n := n) (iv_tk hB) (iv_n6 hB) (iv_cn hB) ?_ ?_ ?_
  · intro z hn hz ha
    subst ha
    have hz6 : z < 64 := Nat.lt_of_lt_of_le hz (pw64 (iv_n6 hB))
    have hfw := iv_few b1 hz
    simp only [cp_kk, cp_vc, cp_vs, cp_jm, cp_ent_en, cp_en_int, cp_en_ref, cp_en_ret, cp_en_long, cp_en_nil, cp_s1_at, cp_s2_at, cp_nl_int, cp_nl_ref, cp_nl_long, cp_nl_none, cp_pop_0, cp_pop_s, reduceIte, if_true, if_false, Bool.false_eq_true, Bool.true_eq_false, false_implies, implies_true, forall_const, true_implies, true_and, and_true, and_self, true_or, or_true, false_or, or_false, Value.category, List.length_cons, List.length_nil, Option.toList_some, Option.toList_none, List.cons_append, List.nil_append, List.append_nil, Prod.mk.injEq, Nat.add_zero, Nat.zero_add, Nat.reduceAdd, Nat.reduceSub, Nat.reduceEqDiff, Nat.reduceLeDiff, Nat.reduceLT, Nat.le_refl, beq_self_eq_true, Nat.reduceBEq, ne_eq, not_true_eq_false, not_false_eq_true, Int32.reduceAdd, Int32.reduceSub, Int32.reduceMul, Int32.reduceLE, Int32.reduceLT, Int32.reduceToNatClampNeg, b01_0, b01_1, ne_2_0, ne_3_0, ne_4_0, ne_5_0, ne_6_0, ne_m1_0, ne_m2_0, b01_01, b01_n, lt_m2, lt_m1, le_m2, le_m1, Classical.not_not, Bool.or_false, Bool.false_or, Bool.true_or, Bool.or_true, j_CP_firstMeeting_0, b_CP_firstMeeting_0, j_CP_firstMeeting_23, b_CP_firstMeeting_23, j_CP_firstMeeting_24, b_CP_firstMeeting_24, an_0, an_1, ne_0_1, ne_0_m1, ne_1_0, ne_1_m1, ne_m1_0, ne_m1_1, pp_0_11, pp_0_7, sh_0, sh_15, sh_40]
    refine c_Intro_firstFor (iv_cT b1) hz6 (iv_KF b1) ?_ ?_
    · intro q hq
      rcases hfw with ⟨r1, r2, r3⟩ | ⟨k, o, r1, r2, r3⟩
      · rw [hq] at r1
        cases r1
      · rw [hq] at r1
        cases r1
        simp only [cp_kk, cp_vc, cp_vs, cp_jm, cp_ent_en, cp_en_int, cp_en_ref, cp_en_ret, cp_en_long, cp_en_nil, cp_s1_at, cp_s2_at, cp_nl_int, cp_nl_ref, cp_nl_long, cp_nl_none, cp_pop_0, cp_pop_s, reduceIte, if_true, if_false, Bool.false_eq_true, Bool.true_eq_false, false_implies, implies_true, forall_const, true_implies, true_and, and_true, and_self, true_or, or_true, false_or, or_false, Value.category, List.length_cons, List.length_nil, Option.toList_some, Option.toList_none, List.cons_append, List.nil_append, List.append_nil, Prod.mk.injEq, Nat.add_zero, Nat.zero_add, Nat.reduceAdd, Nat.reduceSub, Nat.reduceEqDiff, Nat.reduceLeDiff, Nat.reduceLT, Nat.le_refl, beq_self_eq_true, Nat.reduceBEq, ne_eq, not_true_eq_false, not_false_eq_true, Int32.reduceAdd, Int32.reduceSub, Int32.reduceMul, Int32.reduceLE, Int32.reduceLT, Int32.reduceToNatClampNeg, b01_0, b01_1, ne_2_0, ne_3_0, ne_4_0, ne_5_0, ne_6_0, ne_m1_0, ne_m2_0, b01_01, b01_n, lt_m2, lt_m1, le_m2, le_m1, Classical.not_not, Bool.or_false, Bool.false_or, Bool.true_or, Bool.or_true, j_CP_firstMeeting_0, b_CP_firstMeeting_0, j_CP_firstMeeting_23, b_CP_firstMeeting_23, j_CP_firstMeeting_24, b_CP_firstMeeting_24, an_0, an_1, ne_0_1, ne_0_m1, ne_1_0, ne_1_m1, ne_m1_0, ne_m1_1, pp_0_11, pp_0_7, sh_0, sh_15, sh_40]
        refine mid_i ?_
        obtain ⟨k1, k2, k3⟩ := meet_fin h0 (rk (rfu I 0) n 49) (ieF (-2) o) (rfP (imk n (rfu I 0) (rk (rfu I 0) n 49) (ieF (-2) o)) n z)
        have c1 := (iv_fr h0 k1).1
        refine c_Mod_firstMeeting (iv_n6 c1) (iv_n c1) (iv_01 c1) (iv_sy c1) ?_ ?_
        · intro z' _ hz' e
          have e' : z = z' := (nI_eq (by omega) (by omega)).1 e
          subst e'
          exact fin_i (by rw [(k2 z).2, r3]) k3
        · intro e
          exact absurd (iv_sw c1 hn hz) e
    · intro hq
      rcases hfw with ⟨r1, r2, r3⟩ | ⟨k, o, r1, r2, r3⟩
      · simp only [cp_kk, cp_vc, cp_vs, cp_jm, cp_ent_en, cp_en_int, cp_en_ref, cp_en_ret, cp_en_long, cp_en_nil, cp_s1_at, cp_s2_at, cp_nl_int, cp_nl_ref, cp_nl_long, cp_nl_none, cp_pop_0, cp_pop_s, reduceIte, if_true, if_false, Bool.false_eq_true, Bool.true_eq_false, false_implies, implies_true, forall_const, true_implies, true_and, and_true, and_self, true_or, or_true, false_or, or_false, Value.category, List.length_cons, List.length_nil, Option.toList_some, Option.toList_none, List.cons_append, List.nil_append, List.append_nil, Prod.mk.injEq, Nat.add_zero, Nat.zero_add, Nat.reduceAdd, Nat.reduceSub, Nat.reduceEqDiff, Nat.reduceLeDiff, Nat.reduceLT, Nat.le_refl, beq_self_eq_true, Nat.reduceBEq, ne_eq, not_true_eq_false, not_false_eq_true, Int32.reduceAdd, Int32.reduceSub, Int32.reduceMul, Int32.reduceLE, Int32.reduceLT, Int32.reduceToNatClampNeg, b01_0, b01_1, ne_2_0, ne_3_0, ne_4_0, ne_5_0, ne_6_0, ne_m1_0, ne_m2_0, b01_01, b01_n, lt_m2, lt_m1, le_m2, le_m1, Classical.not_not, Bool.or_false, Bool.false_or, Bool.true_or, Bool.or_true, j_CP_firstMeeting_0, b_CP_firstMeeting_0, j_CP_firstMeeting_23, b_CP_firstMeeting_23, j_CP_firstMeeting_24, b_CP_firstMeeting_24, an_0, an_1, ne_0_1, ne_0_m1, ne_1_0, ne_1_m1, ne_m1_0, ne_m1_1, pp_0_11, pp_0_7, sh_0, sh_15, sh_40]
        refine mid_i ?_
        obtain ⟨k1, k2, k3⟩ := meet_fin h0 (rk (rfu I 0) n 49) (-2) (rfP (imk n (rfu I 0) (rk (rfu I 0) n 49) (-2)) n z)
        have c1 := (iv_fr h0 k1).1
        refine c_Mod_firstMeeting (iv_n6 c1) (iv_n c1) (iv_01 c1) (iv_sy c1) ?_ ?_
        · intro z' _ hz' e
          have e' : z = z' := (nI_eq (by omega) (by omega)).1 e
          subst e'
          exact fin_i (by rw [(k2 z).2, r3]) k3
        · intro e
          exact absurd (iv_sw c1 hn hz) e
      · rw [hq] at r1
        cases r1
  · intro hn hno
    simp only [cp_kk, cp_vc, cp_vs, cp_jm, cp_ent_en, cp_en_int, cp_en_ref, cp_en_ret, cp_en_long, cp_en_nil, cp_s1_at, cp_s2_at, cp_nl_int, cp_nl_ref, cp_nl_long, cp_nl_none, cp_pop_0, cp_pop_s, reduceIte, if_true, if_false, Bool.false_eq_true, Bool.true_eq_false, false_implies, implies_true, forall_const, true_implies, true_and, and_true, and_self, true_or, or_true, false_or, or_false, Value.category, List.length_cons, List.length_nil, Option.toList_some, Option.toList_none, List.cons_append, List.nil_append, List.append_nil, Prod.mk.injEq, Nat.add_zero, Nat.zero_add, Nat.reduceAdd, Nat.reduceSub, Nat.reduceEqDiff, Nat.reduceLeDiff, Nat.reduceLT, Nat.le_refl, beq_self_eq_true, Nat.reduceBEq, ne_eq, not_true_eq_false, not_false_eq_true, Int32.reduceAdd, Int32.reduceSub, Int32.reduceMul, Int32.reduceLE, Int32.reduceLT, Int32.reduceToNatClampNeg, b01_0, b01_1, ne_2_0, ne_3_0, ne_4_0, ne_5_0, ne_6_0, ne_m1_0, ne_m2_0, b01_01, b01_n, lt_m2, lt_m1, le_m2, le_m1, Classical.not_not, Bool.or_false, Bool.false_or, Bool.true_or, Bool.or_true, j_CP_firstMeeting_0, b_CP_firstMeeting_0, j_CP_firstMeeting_23, b_CP_firstMeeting_23, j_CP_firstMeeting_24, b_CP_firstMeeting_24, an_0, an_1, ne_0_1, ne_0_m1, ne_1_0, ne_1_m1, ne_m1_0, ne_m1_1, pp_0_11, pp_0_7, sh_0, sh_15, sh_40]
    refine mid_i ?_
    refine c_Mod_firstMeeting (iv_n6 b2) (iv_n b2) (iv_01 b2) (iv_sy b2) ?_ ?_
    · intro z' e
      rw [iv_sw2 b2 hn hno] at e
      exact absurd e (by decide +kernel)
    · intro _
      rw [iv_sw2 b2 hn hno]
      exact fin_i rfl (iv_rn h0 n24)
  · intro hn
    simp only [cp_kk, cp_vc, cp_vs, cp_jm, cp_ent_en, cp_en_int, cp_en_ref, cp_en_ret, cp_en_long, cp_en_nil, cp_s1_at, cp_s2_at, cp_nl_int, cp_nl_ref, cp_nl_long, cp_nl_none, cp_pop_0, cp_pop_s, reduceIte, if_true, if_false, Bool.false_eq_true, Bool.true_eq_false, false_implies, implies_true, forall_const, true_implies, true_and, and_true, and_self, true_or, or_true, false_or, or_false, Value.category, List.length_cons, List.length_nil, Option.toList_some, Option.toList_none, List.cons_append, List.nil_append, List.append_nil, Prod.mk.injEq, Nat.add_zero, Nat.zero_add, Nat.reduceAdd, Nat.reduceSub, Nat.reduceEqDiff, Nat.reduceLeDiff, Nat.reduceLT, Nat.le_refl, beq_self_eq_true, Nat.reduceBEq, ne_eq, not_true_eq_false, not_false_eq_true, Int32.reduceAdd, Int32.reduceSub, Int32.reduceMul, Int32.reduceLE, Int32.reduceLT, Int32.reduceToNatClampNeg, b01_0, b01_1, ne_2_0, ne_3_0, ne_4_0, ne_5_0, ne_6_0, ne_m1_0, ne_m2_0, b01_01, b01_n, lt_m2, lt_m1, le_m2, le_m1, Classical.not_not, Bool.or_false, Bool.false_or, Bool.true_or, Bool.or_true, j_CP_firstMeeting_0, b_CP_firstMeeting_0, j_CP_firstMeeting_23, b_CP_firstMeeting_23, j_CP_firstMeeting_24, b_CP_firstMeeting_24, an_0, an_1, ne_0_1, ne_0_m1, ne_1_0, ne_1_m1, ne_m1_0, ne_m1_1, pp_0_11, pp_0_7, sh_0, sh_15, sh_40]
    refine mid_i ?_
    refine c_Mod_firstMeeting (iv_n6 b0) (iv_n b0) (iv_01 b0) (iv_sy b0) ?_ ?_
    · intro z' e
      rw [iv_sw0 b0 hn] at e
      exact absurd e (by decide +kernel)
    · intro _
      rw [iv_sw0 b0 hn]
      exact fin_i rfl (iv_rn h0 n14)
end Prc
