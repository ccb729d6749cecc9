section Led3
variable {g : cp_G} {d dC mc ms cells slots : Nat} {rest : List Value} {sh : cp_H} {I : cp_I} {J : cp_J} {P : cp_P} {Q Q1 : cp_QT} {L : cp_Lo} {t u r x n s m : Nat}
/-- the call that throws, and its handler up to the place behind 'astore_3' -/
theorem r_catch {i : Int32} (hM : MX g dC 1 6 m_CP_led [.ref 0, .int i] sh I J P Q1) (hdd : dC + 1 ≤ d) (hs0 : cp_sh sh 0 = (10 + 3, 14)) (hc : cells + 1 ≤ mc) (hs : slots + 6 ≤ ms) (hre : rest.length ≤ 4)
    (h0 : ∀ v sh' I' J' P', Q1 v sh' I' J' P' → v = none)
    (hk : ∀ sh' I' J' P', Q1 none sh' I' J' P' → RW g false d mc ms m_Law_led (cells + 1) (slots + 6) 13 (fun _ => none) [] sh' I' J' P' Q) : RW g false d mc ms m_Law_led cells slots 4 L (.int i :: .ref 0 :: rest) sh I J P Q := by
  intro p e s m args below meth c H locs ls A hC hR hA hS hL hx z1 z2 T hT X
  obtain ⟨hok, hM⟩ := hM
  have hl : 0 < sh.length := cp_sh_lt (by rw [hs0]; exact fun h => by cases h)
  have hab := cp_a_lt g (Nat.lt_of_lt_of_le hl hR.2)
  have hrec : ∃ cell : Cell, H[cp_a g 0]? = some cell ∧ cell.vm.isStatics = false ∧ s.vm.findClass RX10 = some cell.cls := by
    rw [hab]
    exact va_recv hC.2.2.2.2.2.2.2.2.1.1 hR.1 rfl (cp_e_obj hs0)
  have hdec : decode m_Law_led.2.1 4 = .ok (.invokevirtual 7, 3) := by decide +kernel
  have hr := vx_runV (p := p) (l := cp_l g) (e := e) (below := below) (meth := meth) (H := H) (locs := locs) (cells := cells) (slots := slots) (C := RX10) (b := cp_a g 0) (As := [.int i]) (rest := rest.map (cp_v g)) (Ts := cp_WT) (n := 1) (g := F0 m 4 ls ((.int i :: .ref 0 :: rest).map (cp_v g))) (R := cp_rm d mc ms) ⟨hC.1, hC.2.1, hC.2.2.2.1, hC.2.2.2.2.1, hC.2.2.2.2.2.1⟩ (hM H.size)
    ⟨cp_cb (mcC := 1) (msC := 6) hC hok cl_w1 (by decide +kernel) hdd, cp_wd hC cl_w2, cp_wd hC cl_w3⟩ ⟨cp_blind, hrec, cp_pre (as := [.ref 0, .int i]) (ex := false) hR hA hS hC.2.2.2.2.2.2.2.1 hC.2.2.2.2.2.2.2.2.1 (fun q => by cases q)⟩ rfl rfl hL.1 rfl (cp_room hre) hdec ⟨hc, hs⟩
  have hfree := cp_free (I := I) (J := J) (P := P) hA hS hC.2.2.2.2.2.2.2.1
  rcases hr T hT X with ⟨v, st₀, t, T', L', h0', X', hL', e1, e2, ⟨⟨v', sh', I', J', P', hv, ⟨hn0, hq⟩, -⟩, -⟩, st⟩ | ⟨q, st₀, t, T', L', E, ce, h0', X', hL', e1, e2, ⟨rfl, ⟨sh', I', J', P', hq, hR', hA'⟩, hF'⟩, hce, hcv, hcl', st⟩
  · exact absurd (h0 _ _ _ _ _ hq) hn0
  · obtain ⟨k1, k2, k3⟩ := vx_keep h0' e1 hS (fun q _ z => hfree q z) hfree hL' hF'
    have kk : vx_W p (cp_l g) e (cp_rm d mc ms) s m args below meth c T'.heap (locs ++ L') (cells + 1) (slots + 6) (cp_MQ g m_Law_led false mc ms A Q below args s) (F0 m 4 ls (rest.map (cp_v g))) q := by
      refine vx_catch (own := "ColdPlungeLaw") (name := "java/util/NoSuchElementException") (E := "java/util/NoSuchElementException") (ce := ce) hC.2.2.2.2.1 [] ⟨0, 9, 12, 13⟩ [] (hC.2.2.2.2.2.2.2.2.2.2.2 k_Law_led) (fun z hz => nomatch hz) (by decide) (by decide) (cp_wd hC cl_w4) (nx_cast hcl') (by rw [e1]; exact hce) hcv hcl' ?_
      exact lv_astore_n (cc := m_Law_led.2.1) (k := 3) (i := 3) (nL := 4) hC.1 hC.2.1 (by decide +kernel) rfl hL (by decide) rfl (fun ls' hl' => hk sh' I' J' P' hq p e s m args below meth c T'.heap (locs ++ L') ls' A hC (by rw [e1]; exact hR') (fun a ha => hfree _ (hA' a ha)) k3 ⟨hl'.1, hl'.2.1, fun q hq => by simp [cp_lv] at hq⟩ (fun q => by cases q) hc hs)
    obtain ⟨t2, a1, b1⟩ := kk T' rfl X'
    exact ⟨t2, st.trans a1, b1⟩
def b_LawT_0 : List cp_AI := [(0, .aload_n 2, 1, [2], [], 0, 0, cp_m0), (1, .iconst 0, 1, [], [], 0, 0, cp_m0), (2, .aload_n 0, 1, [0], [], 0, 0, cp_m0), (3, .iload_n 1, 1, [1], [], 0, 0, cp_m0), (4, .nop, 0, [], [], 0, 0, cp_m0)]
def b_LawT_13 : List cp_AI := [(13, .iconst 1, 1, [], [], 1, 0, cp_m0), (14, .ireturn, 1, [0], [], 0, 0, cp_m0)]
def bl_LawT : List (Nat × List cp_AI) := [(0, b_LawT_0), (13, b_LawT_13)]
theorem ck_LawT : cp_bl m_Law_led bl_LawT = true := by decide +kernel
theorem j_LawT_0 : cp_jl bl_LawT 0 = b_LawT_0 := rfl
theorem j_LawT_13 : cp_jl bl_LawT 13 = b_LawT_13 := rfl
theorem oI_e0 : oI none = -2 := rfl
theorem oI_e1 (b : Nat) : oI (some b) = nI b := rfl
/-- whom 'led' tells -/
def whom (I : cp_I) (t n s : Nat) (i : Int32) : Option Nat := sp_nth (fun b => (s &&& (63 - cb I t n s)).testBit b) i n 0 0
/-- .. where there is none -/
theorem x_CP_led {i : Int32} (hB : ivB I t n s m) (hst : (cp_l g).stackTraces = false) (hno : whom I t n s i = none) : MX g (d + 15) 1 6 m_CP_led [.ref 0, .int i] SH I J (PP t u r x) (fun v sh' I' J' P' => v = none ∧ sh' = SH ∧ I' = I ∧ J' = J ∧ P' = PP t u r x) := by
  unfold whom at hno
  refine MX.of ok_CP_led k_CP_led (Nat.le_of_ble_eq_true rfl) ?_
  refine cp_run 40 (fun t => t == 15) ck_CP_led ?_
  simp only [cp_vc, cp_vs, cp_jm, cp_ent_en, cp_en_int, cp_en_ref, cp_en_ret, cp_en_long, cp_en_nil, cp_s1_at, cp_s2_at, cp_nl_int, cp_nl_ref, cp_nl_long, cp_nl_none, cp_pop_0, cp_pop_s, reduceIte, if_true, if_false, Bool.false_eq_true, Bool.true_eq_false, false_implies, implies_true, forall_const, true_implies, true_and, and_true, and_self, true_or, or_true, false_or, or_false, Value.category, List.length_cons, List.length_nil, Option.toList_some, Option.toList_none, List.cons_append, List.nil_append, List.append_nil, Prod.mk.injEq, Nat.add_zero, Nat.zero_add, Nat.reduceAdd, Nat.reduceSub, Nat.reduceEqDiff, Nat.reduceLeDiff, Nat.reduceLT, Nat.le_refl, beq_self_eq_true, Nat.reduceBEq, ne_eq, not_true_eq_false, not_false_eq_true, Int32.reduceAdd, Int32.reduceSub, Int32.reduceMul, Int32.reduceLE, Int32.reduceLT, Int32.reduceToNatClampNeg, b01_0, b01_1, ne_2_0, ne_3_0, ne_4_0, ne_5_0, ne_6_0, ne_m1_0, ne_m2_0, b01_01, b01_n, lt_m2, lt_m1, le_m2, le_m1, Classical.not_not, j_CP_led_0, b_CP_led_0, j_CP_led_26, b_CP_led_26, an_0, an_1, ne_0_1, ne_0_m2, ne_1_0, ne_1_m2, ne_m2_0, ne_m2_1, pp_0_7, sh_0, sh_15, Nat.zero_le]
  refine c_Bath_freezingAt (iv_cT hB) (iv_64 hB) (iv_in hB) ?_
  simp only [cp_kk, cp_vc, cp_vs, cp_jm, cp_ent_en, cp_en_int, cp_en_ref, cp_en_ret, cp_en_long, cp_en_nil, cp_s1_at, cp_s2_at, cp_nl_int, cp_nl_ref, cp_nl_long, cp_nl_none, cp_pop_0, cp_pop_s, reduceIte, if_true, if_false, Bool.false_eq_true, Bool.true_eq_false, false_implies, implies_true, forall_const, true_implies, true_and, and_true, and_self, true_or, or_true, false_or, or_false, Value.category, List.length_cons, List.length_nil, Option.toList_some, Option.toList_none, List.cons_append, List.nil_append, List.append_nil, Prod.mk.injEq, Nat.add_zero, Nat.zero_add, Nat.reduceAdd, Nat.reduceSub, Nat.reduceEqDiff, Nat.reduceLeDiff, Nat.reduceLT, Nat.le_refl, beq_self_eq_true, Nat.reduceBEq, ne_eq, not_true_eq_false, not_false_eq_true, Int32.reduceAdd, Int32.reduceSub, Int32.reduceMul, Int32.reduceLE, Int32.reduceLT, Int32.reduceToNatClampNeg, b01_0, b01_1, ne_2_0, ne_3_0, ne_4_0, ne_5_0, ne_6_0, ne_m1_0, ne_m2_0, b01_01, b01_n, lt_m2, lt_m1, le_m2, le_m1, Classical.not_not, Bool.or_false, Bool.false_or, Bool.true_or, Bool.or_true, j_CP_led_0, b_CP_led_0, j_CP_led_26, b_CP_led_26, an_0, an_1, ne_0_1, ne_0_m2, ne_1_0, ne_1_m2, ne_m2_0, ne_m2_1, pp_0_7, sh_0, sh_15, hno, oI_e0]
  exact r_thr (by omega) hst (by omega) (by omega) ⟨rfl, rfl, rfl, rfl, rfl⟩
theorem nI_m2 {b : Nat} (hb : b < 64) : (nI b = -2) = False := eq_false (fun q => nI_pos (n := b) (by omega) (by rw [q]; decide +kernel))
/-- .. where there is one -/
theorem y_CP_led {i : Int32} {b : Nat} (hB : ivB I t n s m) (hb : whom I t n s i = some b) (h : Q (some (.int (nI b))) SH I J (PP t u r x)) : MW g false (d + 15) 0 0 m_CP_led [.ref 0, .int i] SH I J (PP t u r x) Q := by
  have hb6 : b < 64 := by
    have q := nth_lt n 0 0 hb
    have := iv_n6 hB
    omega
  unfold whom at hb
  refine MW.of1 ok_CP_led k_CP_led (Nat.le_of_ble_eq_true rfl) ?_
  refine cp_run 40 (fun t => t == 15) ck_CP_led ?_
  simp only [cp_vc, cp_vs, cp_jm, cp_ent_en, cp_en_int, cp_en_ref, cp_en_ret, cp_en_long, cp_en_nil, cp_s1_at, cp_s2_at, cp_nl_int, cp_nl_ref, cp_nl_long, cp_nl_none, cp_pop_0, cp_pop_s, reduceIte, if_true, if_false, Bool.false_eq_true, Bool.true_eq_false, false_implies, implies_true, forall_const, true_implies, true_and, and_true, and_self, true_or, or_true, false_or, or_false, Value.category, List.length_cons, List.length_nil, Option.toList_some, Option.toList_none, List.cons_append, List.nil_append, List.append_nil, Prod.mk.injEq, Nat.add_zero, Nat.zero_add, Nat.reduceAdd, Nat.reduceSub, Nat.reduceEqDiff, Nat.reduceLeDiff, Nat.reduceLT, Nat.le_refl, beq_self_eq_true, Nat.reduceBEq, ne_eq, not_true_eq_false, not_false_eq_true, Int32.reduceAdd, Int32.reduceSub, Int32.reduceMul, Int32.reduceLE, Int32.reduceLT, Int32.reduceToNatClampNeg, b01_0, b01_1, ne_2_0, ne_3_0, ne_4_0, ne_5_0, ne_6_0, ne_m1_0, ne_m2_0, b01_01, b01_n, lt_m2, lt_m1, le_m2, le_m1, Classical.not_not, j_CP_led_0, b_CP_led_0, j_CP_led_26, b_CP_led_26, an_0, an_1, ne_0_1, ne_0_m2, ne_1_0, ne_1_m2, ne_m2_0, ne_m2_1, pp_0_7, sh_0, sh_15]
  refine c_Bath_freezingAt (iv_cT hB) (iv_64 hB) (iv_in hB) ?_
  simp only [cp_kk, cp_vc, cp_vs, cp_jm, cp_ent_en, cp_en_int, cp_en_ref, cp_en_ret, cp_en_long, cp_en_nil, cp_s1_at, cp_s2_at, cp_nl_int, cp_nl_ref, cp_nl_long, cp_nl_none, cp_pop_0, cp_pop_s, reduceIte, if_true, if_false, Bool.false_eq_true, Bool.true_eq_false, false_implies, implies_true, forall_const, true_implies, true_and, and_true, and_self, true_or, or_true, false_or, or_false, Value.category, List.length_cons, List.length_nil, Option.toList_some, Option.toList_none, List.cons_append, List.nil_append, List.append_nil, Prod.mk.injEq, Nat.add_zero, Nat.zero_add, Nat.reduceAdd, Nat.reduceSub, Nat.reduceEqDiff, Nat.reduceLeDiff, Nat.reduceLT, Nat.le_refl, beq_self_eq_true, Nat.reduceBEq, ne_eq, not_true_eq_false, not_false_eq_true, Int32.reduceAdd, Int32.reduceSub, Int32.reduceMul, Int32.reduceLE, Int32.reduceLT, Int32.reduceToNatClampNeg, b01_0, b01_1, ne_2_0, ne_3_0, ne_4_0, ne_5_0, ne_6_0, ne_m1_0, ne_m2_0, b01_01, b01_n, lt_m2, lt_m1, le_m2, le_m1, Classical.not_not, Bool.or_false, Bool.false_or, Bool.true_or, Bool.or_true, j_CP_led_0, b_CP_led_0, j_CP_led_26, b_CP_led_26, an_0, an_1, ne_0_1, ne_0_m2, ne_1_0, ne_1_m2, ne_m2_0, ne_m2_1, pp_0_7, sh_0, sh_15, hb, oI_e1, nI_m2 hb6]
  exact ⟨fun q => (by cases q), h⟩
/-- behind the law's own 'led': what it answers, what lies in 'out'; and the reference's, next -/
def QLd (g : cp_G) (d : Nat) (i : Int32) : cp_QT := fun v sh I1 J1 P1 => sh = SH ∧ ∃ k b : Int32, v = some (.int k) ∧ (k = 0 ∨ k = 1) ∧ (k = 0 → J1 59 0 = b.toInt64) ∧
  MW g false (d + 20) 0 0 m_Mod_led [.ref 44, .int i] SH I1 J1 P1 (fun w sh2 I2 J2 P2 => sh2 = SH ∧ ∃ b' : Int32, w = some (.int b') ∧ (k = 0 → b' = b) ∧ I2 44 0 = k ∧ J2 = J1 ∧ ∃ t' u' r' x', P2 = PP t' u' r' x' ∧ Iv I2 t' u')
theorem iv_led (h : Iv I t u) (v : Int32) : Iv (cp_u I 44 0 v) t u := iv_same h (kp_44 kp_r _ (by unfold k44; omega)) (by simp [cp_u_at]) (by simp [cp_u_at])
theorem pr_led {i : Int32} (h : Iv I t u) (hst : (cp_l g).stackTraces = false) : ML g (d + 20) 1 6 [.ref 0, .int i, .ref 59] SH I J (PP t u r x) (QLd g d i) := by
  obtain ⟨⟨n, s, m, h0⟩, -, -⟩ := id h
  have hB := h0.1
  have ew : sp_nth (fun b => (s &&& (63 - rb I n 49 s)).testBit b) i n 0 0 = whom I t n s i := by unfold whom; rw [iv_cb hB (iv_s hB)]
  refine ML.of (Nat.le_of_ble_eq_true rfl) ?_
  cases hw : whom I t n s i with
  | none =>
    refine cp_run 20 (fun t => t == 4) ck_LawT ?_
    simp only [cp_vc, cp_vs, cp_jm, cp_ent_en, cp_en_int, cp_en_ref, cp_en_ret, cp_en_long, cp_en_nil, cp_s1_at, cp_s2_at, cp_nl_int, cp_nl_ref, cp_nl_long, cp_nl_none, cp_pop_0, cp_pop_s, reduceIte, if_true, if_false, Bool.false_eq_true, Bool.true_eq_false, false_implies, implies_true, forall_const, true_implies, true_and, and_true, and_self, true_or, or_true, false_or, or_false, Value.category, List.length_cons, List.length_nil, Option.toList_some, Option.toList_none, List.cons_append, List.nil_append, List.append_nil, Prod.mk.injEq, Nat.add_zero, Nat.zero_add, Nat.reduceAdd, Nat.reduceSub, Nat.reduceEqDiff, Nat.reduceLeDiff, Nat.reduceLT, Nat.le_refl, beq_self_eq_true, Nat.reduceBEq, ne_eq, not_true_eq_false, not_false_eq_true, Int32.reduceAdd, Int32.reduceSub, Int32.reduceMul, Int32.reduceLE, Int32.reduceLT, Int32.reduceToNatClampNeg, b01_0, b01_1, ne_2_0, ne_3_0, ne_4_0, ne_5_0, ne_6_0, ne_m1_0, ne_m2_0, b01_01, b01_n, lt_m2, lt_m1, le_m2, le_m1, Classical.not_not, j_LawT_0, b_LawT_0, j_LawT_13, b_LawT_13, cl_0, vi_0, Nat.zero_le]
    refine r_catch (dC := d + 15) (rest := [.int 0, .ref 59]) (x_CP_led (i := i) hB hst hw) (by omega) sh_0 (by omega) (by omega) (by decide) (fun _ _ _ _ _ q => q.1) ?_
    rintro sh' I' J' P' ⟨-, rfl, rfl, rfl, rfl⟩
    refine cp_run 20 (fun _ => false) ck_LawT ?_
    simp only [cp_vc, cp_vs, cp_jm, cp_ent_en, cp_en_int, cp_en_ref, cp_en_ret, cp_en_long, cp_en_nil, cp_s1_at, cp_s2_at, cp_nl_int, cp_nl_ref, cp_nl_long, cp_nl_none, cp_pop_0, cp_pop_s, reduceIte, if_true, if_false, Bool.false_eq_true, Bool.true_eq_false, false_implies, implies_true, forall_const, true_implies, true_and, and_true, and_self, true_or, or_true, false_or, or_false, Value.category, List.length_cons, List.length_nil, Option.toList_some, Option.toList_none, List.cons_append, List.nil_append, List.append_nil, Prod.mk.injEq, Nat.add_zero, Nat.zero_add, Nat.reduceAdd, Nat.reduceSub, Nat.reduceEqDiff, Nat.reduceLeDiff, Nat.reduceLT, Nat.le_refl, beq_self_eq_true, Nat.reduceBEq, ne_eq, not_true_eq_false, not_false_eq_true, Int32.reduceAdd, Int32.reduceSub, Int32.reduceMul, Int32.reduceLE, Int32.reduceLT, Int32.reduceToNatClampNeg, b01_0, b01_1, ne_2_0, ne_3_0, ne_4_0, ne_5_0, ne_6_0, ne_m1_0, ne_m2_0, b01_01, b01_n, lt_m2, lt_m1, le_m2, le_m1, Classical.not_not, j_LawT_0, b_LawT_0, j_LawT_13, b_LawT_13, cl_0, vi_0, Nat.zero_le]
    refine ⟨rfl, 1, 0, rfl, Or.inr rfl, fun q => absurd q (by decide +kernel), ?_⟩
    refine c_Mod_led (iv_n6 hB) (iv_n hB) (iv_64 hB) (iv_st hB) ?_ ?_ ?_
    · intro _ b e
      rw [ew, hw] at e
      cases e
    · intro _ _
      exact ⟨rfl, 0, rfl, fun q => absurd q (by decide +kernel), by simp [cp_u_at], rfl, t, u, r, x, rfl, iv_led h _⟩
    · intro _
      exact ⟨rfl, 0, rfl, fun q => absurd q (by decide +kernel), by simp [cp_u_at], rfl, t, u, r, x, rfl, iv_led h _⟩
  | some b =>
    have hn : 0 < n := by
      have q := nth_lt n 0 0 hw
      omega
    refine cp_run 40 (fun _ => false) ck_Law_led ?_
    simp only [cp_vc, cp_vs, cp_jm, cp_ent_en, cp_en_int, cp_en_ref, cp_en_ret, cp_en_long, cp_en_nil, cp_s1_at, cp_s2_at, cp_nl_int, cp_nl_ref, cp_nl_long, cp_nl_none, cp_pop_0, cp_pop_s, reduceIte, if_true, if_false, Bool.false_eq_true, Bool.true_eq_false, false_implies, implies_true, forall_const, true_implies, true_and, and_true, and_self, true_or, or_true, false_or, or_false, Value.category, List.length_cons, List.length_nil, Option.toList_some, Option.toList_none, List.cons_append, List.nil_append, List.append_nil, Prod.mk.injEq, Nat.add_zero, Nat.zero_add, Nat.reduceAdd, Nat.reduceSub, Nat.reduceEqDiff, Nat.reduceLeDiff, Nat.reduceLT, Nat.le_refl, beq_self_eq_true, Nat.reduceBEq, ne_eq, not_true_eq_false, not_false_eq_true, Int32.reduceAdd, Int32.reduceSub, Int32.reduceMul, Int32.reduceLE, Int32.reduceLT, Int32.reduceToNatClampNeg, b01_0, b01_1, ne_2_0, ne_3_0, ne_4_0, ne_5_0, ne_6_0, ne_m1_0, ne_m2_0, b01_01, b01_n, lt_m2, lt_m1, le_m2, le_m1, Classical.not_not, j_Law_led_0, b_Law_led_0, j_Law_led_15, b_Law_led_15, an_0, an_1, cl_0, ne_0_1, ne_1_0, sh_0, vi_0, Nat.zero_le]
    refine y_CP_led hB hw ?_
    simp only [cp_kk, cp_vc, cp_vs, cp_jm, cp_ent_en, cp_en_int, cp_en_ref, cp_en_ret, cp_en_long, cp_en_nil, cp_s1_at, cp_s2_at, cp_nl_int, cp_nl_ref, cp_nl_long, cp_nl_none, cp_pop_0, cp_pop_s, reduceIte, if_true, if_false, Bool.false_eq_true, Bool.true_eq_false, false_implies, implies_true, forall_const, true_implies, true_and, and_true, and_self, true_or, or_true, false_or, or_false, Value.category, List.length_cons, List.length_nil, Option.toList_some, Option.toList_none, List.cons_append, List.nil_append, List.append_nil, Prod.mk.injEq, Nat.add_zero, Nat.zero_add, Nat.reduceAdd, Nat.reduceSub, Nat.reduceEqDiff, Nat.reduceLeDiff, Nat.reduceLT, Nat.le_refl, beq_self_eq_true, Nat.reduceBEq, ne_eq, not_true_eq_false, not_false_eq_true, Int32.reduceAdd, Int32.reduceSub, Int32.reduceMul, Int32.reduceLE, Int32.reduceLT, Int32.reduceToNatClampNeg, b01_0, b01_1, ne_2_0, ne_3_0, ne_4_0, ne_5_0, ne_6_0, ne_m1_0, ne_m2_0, b01_01, b01_n, lt_m2, lt_m1, le_m2, le_m1, Classical.not_not, Bool.or_false, Bool.false_or, Bool.true_or, Bool.or_true, j_Law_led_0, b_Law_led_0, j_Law_led_15, b_Law_led_15, an_0, an_1, cl_0, ne_0_1, ne_1_0, sh_0, vi_0, Nat.zero_le, sh_59, vi_0]
    refine ⟨rfl, 0, nI b, rfl, Or.inl rfl, fun _ => by simp [cp_u_at], ?_⟩
    refine c_Mod_led (iv_n6 hB) (iv_n hB) (iv_64 hB) (iv_st hB) ?_ ?_ ?_
    · intro _ b' e
      rw [ew, hw] at e
      cases e
      exact ⟨rfl, nI b, rfl, fun _ => rfl, by simp [cp_u_at], rfl, t, u, r, x, rfl, iv_led h _⟩
    · intro _ e
      rw [ew, hw] at e
      cases e
    · intro e
      exact absurd e (iv_p1 hB hn)
end Led3
