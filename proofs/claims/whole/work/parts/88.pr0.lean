section Pr0
variable {g : cp_G} {d : Nat} {I M N : cp_I} {J : cp_J} {Q : cp_QT} {t u r x n s m : Nat}
theorem clo_cong {ti ti' : sp_T} (h : ∀ a b, a < n → b < n → ti a b = ti' a b) (p : Int32 × Int32) : fo (sp_clo n ti) n 0 p = fo (sp_clo n ti') n 0 p := by
  refine fo_congr n 0 p (fun a _ ha p => ?_)
  unfold sp_clo
  refine fo_congr _ _ p (fun b hb1 hb2 p => ?_)
  unfold sp_cs
  rw [h a b (by omega) (by omega)]
theorem iv_clo (h : ivB I t n s m) : (fo (sp_clo n (rt I 49)) n 0 (-2, 0)).1 = (fo (sp_clo n (ctm I t m)) n 0 (-2, 0)).1 := by
  have h6 := iv_n6 h
  rw [clo_cong (fun a b ha hb => iv_rt h (by omega) (by omega))]
theorem c_Mod_loneliest0 (hn6 : n ≤ 6) (hn : I 47 4 = nI n) (h1 : ¬ I 44 14 = 0 → False) (h0 : I 44 14 = 0 → Q (some (.int (-1))) SH (cp_u (gd I) 44 11 1) J (PP t u r x)) : MW g false (d + 3) 0 0 m_Mod_loneliest [.ref 44] SH I J (PP t u r x) Q := by
  have h14 : I 44 14 = 0 := Classical.byContradiction fun q => h1 q
  refine MW.of ok_Mod_loneliest (Nat.le_of_ble_eq_true rfl) ?_
  refine cp_run 40 (fun _ => false) ck_Mod_loneliest ?_
  simp only [cp_vc, cp_vs, cp_jm, cp_ent_en, cp_en_int, cp_en_ref, cp_en_ret, cp_en_long, cp_en_nil, cp_s1_at, cp_s2_at, cp_nl_int, cp_nl_ref, cp_nl_long, cp_nl_none, cp_pop_0, cp_pop_s, reduceIte, if_true, if_false, Bool.false_eq_true, Bool.true_eq_false, false_implies, implies_true, forall_const, true_implies, true_and, and_true, and_self, true_or, or_true, false_or, or_false, Value.category, List.length_cons, List.length_nil, Option.toList_some, Option.toList_none, List.cons_append, List.nil_append, List.append_nil, Prod.mk.injEq, Nat.add_zero, Nat.zero_add, Nat.reduceAdd, Nat.reduceSub, Nat.reduceEqDiff, Nat.reduceLeDiff, Nat.reduceLT, Nat.le_refl, beq_self_eq_true, Nat.reduceBEq, ne_eq, not_true_eq_false, not_false_eq_true, Int32.reduceAdd, Int32.reduceSub, Int32.reduceMul, Int32.reduceLE, Int32.reduceLT, Int32.reduceToNatClampNeg, b01_0, b01_1, ne_2_0, ne_3_0, ne_4_0, ne_5_0, ne_6_0, ne_m1_0, ne_m2_0, b01_01, b01_n, lt_m2, lt_m1, le_m2, le_m1, Classical.not_not, j_Mod_loneliest_0, b_Mod_loneliest_0, j_Mod_loneliest_17, b_Mod_loneliest_17, j_Mod_loneliest_21, b_Mod_loneliest_21, j_Mod_loneliest_60, b_Mod_loneliest_60, j_Mod_loneliest_66, b_Mod_loneliest_66, an_0, an_1, an_4, cl_0, cl_1, cl_4, ne_0_1, ne_0_4, ne_1_0, ne_1_4, ne_4_0, ne_4_1, pp_44_15, pp_44_17, sh_44, sh_47, sh_49, vi_0, vi_1, vi_4]
  refine c_Mod_gd (d := d + 1) ?_
  simp only [cp_kk, cp_vc, cp_vs, cp_jm, cp_ent_en, cp_en_int, cp_en_ref, cp_en_ret, cp_en_long, cp_en_nil, cp_s1_at, cp_s2_at, cp_nl_int, cp_nl_ref, cp_nl_long, cp_nl_none, cp_pop_0, cp_pop_s, reduceIte, if_true, if_false, Bool.false_eq_true, Bool.true_eq_false, false_implies, implies_true, forall_const, true_implies, true_and, and_true, and_self, true_or, or_true, false_or, or_false, Value.category, List.length_cons, List.length_nil, Option.toList_some, Option.toList_none, List.cons_append, List.nil_append, List.append_nil, Prod.mk.injEq, Nat.add_zero, Nat.zero_add, Nat.reduceAdd, Nat.reduceSub, Nat.reduceEqDiff, Nat.reduceLeDiff, Nat.reduceLT, Nat.le_refl, beq_self_eq_true, Nat.reduceBEq, ne_eq, not_true_eq_false, not_false_eq_true, Int32.reduceAdd, Int32.reduceSub, Int32.reduceMul, Int32.reduceLE, Int32.reduceLT, Int32.reduceToNatClampNeg, b01_0, b01_1, ne_2_0, ne_3_0, ne_4_0, ne_5_0, ne_6_0, ne_m1_0, ne_m2_0, b01_01, b01_n, lt_m2, lt_m1, le_m2, le_m1, Classical.not_not, Bool.or_false, Bool.false_or, Bool.true_or, Bool.or_true, j_Mod_loneliest_0, b_Mod_loneliest_0, j_Mod_loneliest_17, b_Mod_loneliest_17, j_Mod_loneliest_21, b_Mod_loneliest_21, j_Mod_loneliest_60, b_Mod_loneliest_60, j_Mod_loneliest_66, b_Mod_loneliest_66, an_0, an_1, an_4, cl_0, cl_1, cl_4, ne_0_1, ne_0_4, ne_1_0, ne_1_4, ne_4_0, ne_4_1, pp_44_15, pp_44_17, sh_44, sh_47, sh_49, vi_0, vi_1, vi_4, gd_14, h14]
  refine c_Mod_no (d := d + 1) ?_
  simp only [cp_kk, cp_vc, cp_vs, cp_jm, cp_ent_en, cp_en_int, cp_en_ref, cp_en_ret, cp_en_long, cp_en_nil, cp_s1_at, cp_s2_at, cp_nl_int, cp_nl_ref, cp_nl_long, cp_nl_none, cp_pop_0, cp_pop_s, reduceIte, if_true, if_false, Bool.false_eq_true, Bool.true_eq_false, false_implies, implies_true, forall_const, true_implies, true_and, and_true, and_self, true_or, or_true, false_or, or_false, Value.category, List.length_cons, List.length_nil, Option.toList_some, Option.toList_none, List.cons_append, List.nil_append, List.append_nil, Prod.mk.injEq, Nat.add_zero, Nat.zero_add, Nat.reduceAdd, Nat.reduceSub, Nat.reduceEqDiff, Nat.reduceLeDiff, Nat.reduceLT, Nat.le_refl, beq_self_eq_true, Nat.reduceBEq, ne_eq, not_true_eq_false, not_false_eq_true, Int32.reduceAdd, Int32.reduceSub, Int32.reduceMul, Int32.reduceLE, Int32.reduceLT, Int32.reduceToNatClampNeg, b01_0, b01_1, ne_2_0, ne_3_0, ne_4_0, ne_5_0, ne_6_0, ne_m1_0, ne_m2_0, b01_01, b01_n, lt_m2, lt_m1, le_m2, le_m1, Classical.not_not, Bool.or_false, Bool.false_or, Bool.true_or, Bool.or_true, j_Mod_loneliest_0, b_Mod_loneliest_0, j_Mod_loneliest_17, b_Mod_loneliest_17, j_Mod_loneliest_21, b_Mod_loneliest_21, j_Mod_loneliest_60, b_Mod_loneliest_60, j_Mod_loneliest_66, b_Mod_loneliest_66, an_0, an_1, an_4, cl_0, cl_1, cl_4, ne_0_1, ne_0_4, ne_1_0, ne_1_4, ne_4_0, ne_4_1, pp_44_15, pp_44_17, sh_44, sh_47, sh_49, vi_0, vi_1, vi_4]
  exact h0 h14
theorem iv_lar (h : ivB I t n s m) (w : Nat) : oI (fo (sp_bst (fun s => decide (s &&& w = w) && rs I n 49 s) (fun s c => decide (card c < card s))) (2 ^ n) 0 none) = oI (fo (sp_bst (fun s => decide (s &&& w = w) && cs I s) (fun s c => decide (card c < card s))) (2 ^ n) 0 none) := by
  refine congrArg oI (bst_cong (N := 2 ^ n) (fun b hb => by rw [iv_cs h hb]) (fun _ _ _ _ => rfl) (2 ^ n) 0 none (by omega) (fun c hc => by cases hc))
theorem iv_mts (h : ivB I t n s m) : nI (fo (fun a z => fo (sp_mt (rm_ I n 49) a) (n - (a + 1)) (a + 1) z) n 0 0) = nI (fo (fun a z => fo (sp_mt (cmt (rk I n 49) (rf I n)) a) (n - (a + 1)) (a + 1) z) n 0 0) := by
  congr 1
  refine fo_congr n 0 0 (fun a _ ha z => fo_congr _ _ z (fun b hb1 hb2 z => ?_))
  unfold sp_mt
  rw [iv_mt h (by omega)]
theorem xor_lt {z n b : Nat} (hz : z < 2 ^ n) (hb : b < n) : z ^^^ 2 ^ b < 2 ^ n := Nat.xor_lt_two_pow hz (Nat.pow_lt_pow_right (by omega) hb)
theorem iv_chg (h : ivB I t n s m) (w : Nat) : oI (fo (sp_ch (rw_ I n 49) w s) n 0 none) = oI (fo (sp_ch (cw I) w s) n 0 none) := by
  unfold sp_ch
  refine congrArg oI (bst_cong (N := n) (fun b hb => rfl) (fun b c hb hc => by rw [iv_cw h (xor_lt (iv_s h) hb), iv_cw h (xor_lt (iv_s h) hc)]) n 0 none (by omega) (fun c hc => by cases hc))
theorem iv_ext (h : ivB I t n s m) (j : Nat) (sg : Int32) : oI (fo (sp_xt (rw_ I n 49) j sg) (2 ^ n) 0 none) = oI (fo (sp_xt (cw I) j sg) (2 ^ n) 0 none) := by
  unfold sp_xt
  refine congrArg oI (bst_cong (N := 2 ^ n) (fun b hb => rfl) (fun b c hb hc => by rw [iv_cw h hb, iv_cw h hc]) (2 ^ n) 0 none (by omega) (fun c hc => by cases hc))
theorem iv_bw (h : ivB I t n s m) {b : Nat} (hb : b < n) : oI (fo (sp_bw (rd I n b) b) (2 ^ n) 0 none) = oI (fo (sp_bw (cd I t b) b) (2 ^ n) 0 none) := by
  unfold sp_bw
  refine congrArg oI (bst_cong (N := 2 ^ n) (fun z hz => by rw [iv_cd h hz hb]) (fun b c hb hc => rfl) (2 ^ n) 0 none (by omega) (fun c hc => by cases hc))
theorem iv_tb (h : ivB I t n s m) {b : Nat} (hb : b < n) (sn : Bool) : nI (sp_cnt (sp_tb (rs I n 49) b sn) (2 ^ n) 0 0) = nI (sp_cnt (sp_tb (cs I) b sn) (2 ^ n) 0 0) := by
  refine congrArg nI (cnt_cong (2 ^ n) 0 0 (fun z _ hz => by unfold sp_tb; rw [iv_cs h (by omega), iv_cs h (or_ltn (by omega) hb)]))
theorem iv_mat (h : ivB I t n s m) {b : Nat} (hb : b < n) : nI (sp_set n (fun o => !decide (o = b) && rd I n b (2 ^ o))) = nI (sp_set n (fun o => !decide (o = b) && decide (cn I t b ≤ cw I (2 ^ b ||| 2 ^ o)))) := by
  congr 1
  refine set_cong (fun o ho => ?_)
  unfold rd
  rw [iv_nd h hb, Nat.or_comm (2 ^ b) (2 ^ o), iv_cw h (or_ltn (Nat.pow_lt_pow_right (by omega) ho) hb)]
theorem iv_nds (h : ivB I t n s m) {z : Nat} (hz : z < 2 ^ n) : I 29 z = fo (sp_gr (rn I) z) n 0 0 := by
  rw [((iv_bOK h).2 z hz).2]
  refine fo_congr n 0 0 (fun b _ hb y => ?_)
  unfold sp_gr
  rw [iv_nd h (by omega)]
end Pr0
