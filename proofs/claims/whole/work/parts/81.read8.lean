section Read8
variable {g : cp_G} {d : Nat} {sh : cp_H} {I M : cp_I} {J J0 : cp_J} {P : cp_P} {Q : cp_QT} {t u r x : Nat} {T : Nat → Nat} {n p : Nat} {s : pS}
/-! two things that the reading keeps: no tie without a pair told of; errors have numbers -/
def pz (s : pS) : Prop := ∀ a b, a < 6 → b < 6 → a ≠ b → ((s.2.1 (58 + a)).toNatClampNeg).testBit b = false → s.2.1 (22 + 6 * a + b) = 0
theorem pz_e {s s' : pS} (h : pz s) (e : ∀ j, 22 ≤ j → j < 64 → s'.2.1 j = s.2.1 j) : pz s' := by
  intro a b ha hb hab hp
  rw [e _ (by omega) (by omega)] at hp
  rw [e _ (by omega) (by omega)]
  exact h a b ha hb hab hp
theorem pz_pair {q b c v : Nat} {p' : Nat} (hw : wf0 s) (h : pz s) (hq : q = 0 ∨ q = 1 ∨ q = 2) (hb : b < 6) (hc : c < 6) (hbc : b ≠ c) : pz (p', p_pair q s.2.1 b c v, s.2.2) := by
  obtain ⟨w1, w2, w3, w4, ⟨v7, w71, w72⟩, -, w6⟩ := hw
  obtain ⟨zb, zb1, zb2⟩ := w6 b hb
  obtain ⟨zc, zc1, zc2⟩ := w6 c hc
  have ec : (s.2.1 7).toNatClampNeg = v7 := by rw [w72]; exact ncl (by omega)
  have base : ∀ (F' : Nat → Int32), (∀ x, x < 6 → F' (58 + x) = upd (upd s.2.1 (58 + b) (s.2.1 (58 + b) ||| nI (2 ^ c))) (58 + c) (s.2.1 (58 + c) ||| nI (2 ^ b)) (58 + x)) → (∀ x y, x < 6 → y < 6 → ¬ (x = b ∧ y = c) → ¬ (x = c ∧ y = b) → F' (22 + 6 * x + y) = s.2.1 (22 + 6 * x + y)) → (q = 0 → ∀ x y, x < 6 → y < 6 → F' (22 + 6 * x + y) = s.2.1 (22 + 6 * x + y)) → pz (p', F', s.2.2) := by
    intro F' h1 h2 _ x y hx hy hxy hp
    have hp' : ((F' (58 + x)).toNatClampNeg).testBit y = false := hp
    rw [h1 x hx] at hp'
    show F' (22 + 6 * x + y) = 0
    have hpb := pow_lt64 hb
    have hpc := pow_lt64 hc
    by_cases e1 : x = c
    · subst e1
      rw [pk_us, zc2, or_nI zc1 hpb, ncl (show zc ||| 2 ^ b < 1000 by have := or_lt64 zc1 hpb; omega), Nat.testBit_or, Nat.testBit_two_pow, Bool.or_eq_false_iff, decide_eq_false_iff_not] at hp'
      rw [h2 x y hx hy (by omega) (by omega)]
      exact h x y hx hy hxy (by rw [zc2, ncl (by omega)]; exact hp'.1)
    · rw [pk_un (by omega)] at hp'
      by_cases e2 : x = b
      · subst e2
        rw [pk_us, zb2, or_nI zb1 hpc, ncl (show zb ||| 2 ^ c < 1000 by have := or_lt64 zb1 hpc; omega), Nat.testBit_or, Nat.testBit_two_pow, Bool.or_eq_false_iff, decide_eq_false_iff_not] at hp'
        rw [h2 x y hx hy (by omega) (by omega)]
        exact h x y hx hy hxy (by rw [zb2, ncl (by omega)]; exact hp'.1)
      · rw [pk_un (by omega)] at hp'
        rw [h2 x y hx hy (by omega) (by omega)]
        exact h x y hx hy hxy hp'
  rcases hq with rfl | rfl | rfl
  · refine base _ ?_ ?_ ?_
    · intro x hx
      rw [p_pair_0, ec, pk_un (by omega), pk_un (by omega), pk_un (by omega), pk_un (by omega)]
    · intro x y hx hy _ _
      rw [p_pair_0, ec, pk_un (by omega), pk_un (by omega), pk_un (by omega), pk_un (by omega), pk_un (by omega), pk_un (by omega)]
    · intro _ x y hx hy
      rw [p_pair_0, ec, pk_un (by omega), pk_un (by omega), pk_un (by omega), pk_un (by omega), pk_un (by omega), pk_un (by omega)]
  · refine base _ ?_ ?_ ?_
    · intro x hx
      rw [p_pair_1, pk_un (by omega), pk_un (by omega), pk_un (by omega)]
    · intro x y hx hy h1 h2
      rw [p_pair_1, pk_un (by omega), pk_un (by omega), pk_un (by omega), pk_un (by omega), pk_un (by omega)]
    · intro z
      omega
  · refine base _ ?_ ?_ ?_
    · intro x hx
      rw [p_pair_2, pk_un (by omega), pk_un (by omega), pk_un (by omega)]
    · intro x y hx hy h1 h2
      rw [p_pair_2, pk_un (by omega), pk_un (by omega), pk_un (by omega), pk_un (by omega), pk_un (by omega)]
    · intro z
      omega
theorem pz_line {a : pS} (hw : wf0 s) (hz : pz s) (h : p_line T n s = .ok a) : pz a := by
  have hw' := hw
  obtain ⟨w1, w2, w3, w4, ⟨v7, w71, w72⟩, ⟨v8, w81, w82⟩, w6⟩ := hw
  have hc8 : (s.2.1 8).toNatClampNeg = v8 := by rw [w82]; exact ncl (by omega)
  unfold p_line at h
  split at h
  · obtain ⟨w, c, i, v, p, -, -, -, -, hp, h9, rfl⟩ := p_head_F h
    refine pz_e hz (fun j h1 h2 => ?_)
    show upd (upd (upd (upd (upd s.2.1 0 (nI w)) 1 (nI c)) 2 (nI i)) 3 (nI v)) 9 1 j = _
    rw [pk_un (by omega), pk_un (by omega), pk_un (by omega), pk_un (by omega), pk_un (by omega)]
  · split at h
    · split at h
      · cases h
      · split at h
        · split at h
          · rename_i hl
            obtain ⟨k, v, q, -, -, hp, -, -, rfl⟩ := p_bather_F h
            refine pz_e hz (fun j h1 h2 => ?_)
            show upd (upd (upd s.2.1 (10 + 2 * s.2.2.length) (nI k)) (11 + 2 * s.2.2.length) (nI v)) 4 (nI (s.2.2.length + 1)) j = _
            rw [pk_un (by omega), pk_un (by omega), pk_un (by omega)]
          · cases h
        · split at h
          · obtain ⟨b, c, v, p, hb, hc, hbc, -, -, -, hp, rfl⟩ := p_tie_F h
            have hb' : b < s.2.2.length := hb
            have hc' : c < s.2.2.length := hc
            exact pz_pair (s := s) hw' hz (by omega) (by omega) (by omega) hbc
          · split at h
            · obtain ⟨b, c, v, p, hb, hc, hbc, -, -, -, hp, rfl⟩ := p_tie_F h
              have hb' : b < s.2.2.length := hb
              have hc' : c < s.2.2.length := hc
              exact pz_pair (s := s) hw' hz (by omega) (by omega) (by omega) hbc
            · split at h
              · split at h
                · cases h
                · obtain ⟨b, c, v, p, hb, hc, hbc, -, -, -, hp, rfl⟩ := p_tie_F h
                  have hb' : b < s.2.2.length := hb
                  have hc' : c < s.2.2.length := hc
                  exact pz_pair (s := s) hw' hz (by omega) (by omega) (by omega) hbc
              · split at h
                · cases h
                · obtain ⟨v, z, p, -, -, hp, rfl⟩ := p_felt_F h
                  refine pz_e hz (fun j h1 h2 => ?_)
                  show upd (upd (upd s.2.1 (76 + 2 * (s.2.1 8).toNatClampNeg) (nI v)) (77 + 2 * (s.2.1 8).toNatClampNeg) (nI z)) 8 (s.2.1 8 + 1) j = _
                  rw [pk_un (by omega), pk_un (by omega), pk_un (by omega)]
    · cases h
def eN {α : Type} (x : Except pE α) : Prop := ∀ e, x = .error e → ¬ e.1 = 0
theorem eN_ok {α : Type} (a : α) : eN (.ok a : Except pE α) := fun e h => by cases h
theorem eN_er {α : Type} {c : Int32} {a : Nat} (hc : ¬ c = 0) : eN (.error (c, a) : Except pE α) := fun e h => by cases h; exact hc
theorem eN_b {α β : Type} {x : Except pE α} {f : α → Except pE β} (h1 : eN x) (h2 : ∀ a, eN (f a)) : eN (eb x f) := by
  cases x with
  | error e => intro e' h; cases h; exact h1 e rfl
  | ok a => exact h2 a
theorem z1 : ¬ (1 : Int32) = 0 := by decide +kernel
theorem z2 : ¬ (2 : Int32) = 0 := by decide +kernel
theorem z3 : ¬ (3 : Int32) = 0 := by decide +kernel
theorem z4 : ¬ (4 : Int32) = 0 := by decide +kernel
theorem z5 : ¬ (5 : Int32) = 0 := by decide +kernel
theorem z6 : ¬ (6 : Int32) = 0 := by decide +kernel
theorem eN_must {w : List Nat} (s : pS) : eN (p_must T n w s) := by
  unfold p_must
  split
  · exact eN_ok _
  · exact eN_er z1
theorem eN_num {lo hi : Nat} (s : pS) : eN (p_num T n lo hi s) := by
  unfold p_num
  split
  · split
    · exact eN_ok _
    · exact eN_er z4
  · exact eN_er z1
theorem eN_after {w : List Nat} {lo hi : Nat} (s : pS) : eN (p_after T n w lo hi s) := eN_b (eN_must s) (fun a => eN_num a)
theorem eN_here (s : pS) : eN (p_here T n s) := by
  unfold p_here
  split
  · split
    · exact eN_ok _
    · exact eN_er z2
  · exact eN_er z1
theorem eN_name (s : pS) : eN (p_name T n s) := by
  unfold p_name
  split
  · split
    · exact eN_er z3
    · exact eN_ok _
  · exact eN_er z1
theorem eN_kind (s : pS) : eN (p_kind T n s) := by
  unfold p_kind
  split
  · exact eN_ok _
  · split
    · exact eN_ok _
    · split
      · exact eN_ok _
      · exact eN_er z1
theorem eN_who : ∀ (m z : Nat) (s : pS), eN (p_who T n m z s)
  | 0, _, _ => eN_ok _
  | m + 1, z, s => by
    rw [p_who]
    split
    · refine eN_b (eN_here _) (fun b => ?_)
      split
      · exact eN_er z3
      · exact eN_who m _ _
    · exact eN_ok _
theorem eN_tie {q : Nat} (s : pS) : eN (p_tie T n q s) := by
  unfold p_tie
  refine eN_b (eN_here _) (fun a => eN_b (eN_here _) (fun b => ?_))
  split
  · exact eN_er z3
  · exact eN_b (eN_after _) (fun v => eN_ok _)
theorem eN_line (s : pS) : eN (p_line T n s) := by
  unfold p_line
  split
  · unfold p_head
    split
    · exact eN_b (eN_after _) (fun a => eN_b (eN_after _) (fun b => eN_b (eN_after _) (fun c => eN_b (eN_after _) (fun e => eN_ok _))))
    · exact eN_er z3
  · split
    · split
      · exact eN_er z6
      · split
        · split
          · exact eN_b (eN_name _) (fun a => eN_b (eN_kind _) (fun k => eN_b (eN_after _) (fun v => eN_ok _)))
          · exact eN_er z5
        · split
          · exact eN_tie _
          · split
            · exact eN_tie _
            · split
              · split
                · exact eN_er z5
                · exact eN_tie _
              · split
                · exact eN_er z5
                · exact eN_b (eN_num _) (fun v => eN_b (eN_who _ _ _) (fun z => eN_ok _))
    · exact eN_er z1
theorem cr_plunge : (6 < 36 ∧ tx 6 = w_plunge.map nI) ∧ ∀ c ∈ w_plunge, c < 256 := by decide +kernel
theorem cr_bather : (11 < 36 ∧ tx 11 = w_bather.map nI) ∧ ∀ c ∈ w_bather, c < 256 := by decide +kernel
theorem cr_felt : (16 < 36 ∧ tx 16 = w_felt.map nI) ∧ ∀ c ∈ w_felt, c < 256 := by decide +kernel
theorem pw_excl {v w : List Nat} (h : pw T n p v = true) (hvw : ¬ v = w) : pw T n p w = false := by
  simp only [pw, Bool.and_eq_true, decide_eq_true_eq] at h
  simp only [pw, Bool.and_eq_false_iff, decide_eq_false_iff_not]
  right
  rw [h.2]
  exact hvw
theorem c_Read_readLine (hr : tk r) (hT : cTx T n I) (h : cO T n I r (s.2.1 9) M J s) (hw : wf0 s) (hz : pz s) (hq : ∀ M' J' b, cL T n I J r b M' J' (p_line T n s) → Q (some (.int b)) SH M' J' (PP t u r 1)) : MW g false (d + 9) 0 0 m_Read_readLine [.ref 12] SH M J (PP t u r 1) Q := by
  obtain ⟨w1, w2, w3, w4, -, -, -⟩ := id hw
  obtain ⟨o1, o2, o3, o4, o5, o6, o7⟩ := id h
  have hTM := cRK_T o1 hr hT
  have jr : ∀ a j, ¬ a = r + 1 → J a j = J a j := fun _ _ _ => rfl
  have bret : ∀ (b : Int32) (M' : cp_I) (J' : cp_J) (y : Except pE pS), cL T n I J r b M' J' y → (b = 0 ∨ b = 1) := by
    intro b M' J' y hy
    cases y with
    | error e => exact Or.inl hy.1
    | ok a => exact Or.inr hy.1
  refine MW.of ok_Read_readLine (Nat.le_of_ble_eq_true rfl) ?_
  refine cp_run 40 (fun _ => false) ck_Read_readLine ?_
  simp only [cp_vc, cp_vs, cp_jm, cp_ent_en, cp_en_int, cp_en_ref, cp_en_ret, cp_en_long, cp_en_nil, cp_s1_at, cp_s2_at, cp_nl_int, cp_nl_ref, cp_nl_long, cp_nl_none, cp_pop_0, cp_pop_s, reduceIte, if_true, if_false, Bool.false_eq_true, Bool.true_eq_false, false_implies, implies_true, forall_const, true_implies, true_and, and_true, and_self, true_or, or_true, false_or, or_false, Value.category, List.length_cons, List.length_nil, Option.toList_some, Option.toList_none, List.cons_append, List.nil_append, List.append_nil, Prod.mk.injEq, Nat.add_zero, Nat.zero_add, Nat.reduceAdd, Nat.reduceSub, Nat.reduceEqDiff, Nat.reduceLeDiff, Nat.reduceLT, Nat.le_refl, beq_self_eq_true, Nat.reduceBEq, ne_eq, not_true_eq_false, not_false_eq_true, Int32.reduceAdd, Int32.reduceSub, Int32.reduceMul, Int32.reduceLE, Int32.reduceLT, Int32.reduceToNatClampNeg, b01_0, b01_1, ne_2_0, ne_3_0, ne_4_0, ne_5_0, ne_6_0, ne_m1_0, ne_m2_0, b01_01, b01_n, lt_m2, lt_m1, le_m2, le_m1, Classical.not_not, j_Read_readLine_0, b_Read_readLine_0, j_Read_readLine_16, b_Read_readLine_16, j_Read_readLine_33, b_Read_readLine_33, j_Read_readLine_47, b_Read_readLine_47, j_Read_readLine_64, b_Read_readLine_64, j_Read_readLine_83, b_Read_readLine_83, j_Read_readLine_87, b_Read_readLine_87, an_0, an_1, an_6, cl_0, cl_1, cl_6, ne_0_1, ne_0_6, ne_1_0, ne_1_6, ne_6_0, ne_6_1, pp_12_0, sh_12, sh_13, vi_0, vi_1, vi_6]
  refine c_Tok_isLineWord (d := d + 2) hTM o4 o7 ?_
  simp only [cp_kk, cp_vc, cp_vs, cp_jm, cp_ent_en, cp_en_int, cp_en_ref, cp_en_ret, cp_en_long, cp_en_nil, cp_s1_at, cp_s2_at, cp_nl_int, cp_nl_ref, cp_nl_long, cp_nl_none, cp_pop_0, cp_pop_s, reduceIte, if_true, if_false, Bool.false_eq_true, Bool.true_eq_false, false_implies, implies_true, forall_const, true_implies, true_and, and_true, and_self, true_or, or_true, false_or, or_false, Value.category, List.length_cons, List.length_nil, Option.toList_some, Option.toList_none, List.cons_append, List.nil_append, List.append_nil, Prod.mk.injEq, Nat.add_zero, Nat.zero_add, Nat.reduceAdd, Nat.reduceSub, Nat.reduceEqDiff, Nat.reduceLeDiff, Nat.reduceLT, Nat.le_refl, beq_self_eq_true, Nat.reduceBEq, ne_eq, not_true_eq_false, not_false_eq_true, Int32.reduceAdd, Int32.reduceSub, Int32.reduceMul, Int32.reduceLE, Int32.reduceLT, Int32.reduceToNatClampNeg, b01_0, b01_1, ne_2_0, ne_3_0, ne_4_0, ne_5_0, ne_6_0, ne_m1_0, ne_m2_0, b01_01, b01_n, lt_m2, lt_m1, le_m2, le_m1, Classical.not_not, Bool.or_false, Bool.false_or, Bool.true_or, Bool.or_true, j_Read_readLine_0, b_Read_readLine_0, j_Read_readLine_16, b_Read_readLine_16, j_Read_readLine_33, b_Read_readLine_33, j_Read_readLine_47, b_Read_readLine_47, j_Read_readLine_64, b_Read_readLine_64, j_Read_readLine_83, b_Read_readLine_83, j_Read_readLine_87, b_Read_readLine_87, an_0, an_1, an_6, cl_0, cl_1, cl_6, ne_0_1, ne_0_6, ne_1_0, ne_1_6, ne_6_0, ne_6_1, pp_12_0, sh_12, sh_13, vi_0, vi_1, vi_6]
  refine ⟨fun bl => ?_, fun bl => ?_⟩
  · refine c_Tok_spells (d := d + 3) cr_plunge hTM o4 o7 ?_
    simp only [cp_kk, cp_vc, cp_vs, cp_jm, cp_ent_en, cp_en_int, cp_en_ref, cp_en_ret, cp_en_long, cp_en_nil, cp_s1_at, cp_s2_at, cp_nl_int, cp_nl_ref, cp_nl_long, cp_nl_none, cp_pop_0, cp_pop_s, reduceIte, if_true, if_false, Bool.false_eq_true, Bool.true_eq_false, false_implies, implies_true, forall_const, true_implies, true_and, and_true, and_self, true_or, or_true, false_or, or_false, Value.category, List.length_cons, List.length_nil, Option.toList_some, Option.toList_none, List.cons_append, List.nil_append, List.append_nil, Prod.mk.injEq, Nat.add_zero, Nat.zero_add, Nat.reduceAdd, Nat.reduceSub, Nat.reduceEqDiff, Nat.reduceLeDiff, Nat.reduceLT, Nat.le_refl, beq_self_eq_true, Nat.reduceBEq, ne_eq, not_true_eq_false, not_false_eq_true, Int32.reduceAdd, Int32.reduceSub, Int32.reduceMul, Int32.reduceLE, Int32.reduceLT, Int32.reduceToNatClampNeg, b01_0, b01_1, ne_2_0, ne_3_0, ne_4_0, ne_5_0, ne_6_0, ne_m1_0, ne_m2_0, b01_01, b01_n, lt_m2, lt_m1, le_m2, le_m1, Classical.not_not, Bool.or_false, Bool.false_or, Bool.true_or, Bool.or_true, j_Read_readLine_0, b_Read_readLine_0, j_Read_readLine_16, b_Read_readLine_16, j_Read_readLine_33, b_Read_readLine_33, j_Read_readLine_47, b_Read_readLine_47, j_Read_readLine_64, b_Read_readLine_64, j_Read_readLine_83, b_Read_readLine_83, j_Read_readLine_87, b_Read_readLine_87, an_0, an_1, an_6, cl_0, cl_1, cl_6, ne_0_1, ne_0_6, ne_1_0, ne_1_6, ne_6_0, ne_6_1, pp_12_0, sh_12, sh_13, vi_0, vi_1, vi_6]
    refine ⟨fun b1 => ?_, fun b1 => ?_⟩
    · simp only [cp_kk, cp_vc, cp_vs, cp_jm, cp_ent_en, cp_en_int, cp_en_ref, cp_en_ret, cp_en_long, cp_en_nil, cp_s1_at, cp_s2_at, cp_nl_int, cp_nl_ref, cp_nl_long, cp_nl_none, cp_pop_0, cp_pop_s, reduceIte, if_true, if_false, Bool.false_eq_true, Bool.true_eq_false, false_implies, implies_true, forall_const, true_implies, true_and, and_true, and_self, true_or, or_true, false_or, or_false, Value.category, List.length_cons, List.length_nil, Option.toList_some, Option.toList_none, List.cons_append, List.nil_append, List.append_nil, Prod.mk.injEq, Nat.add_zero, Nat.zero_add, Nat.reduceAdd, Nat.reduceSub, Nat.reduceEqDiff, Nat.reduceLeDiff, Nat.reduceLT, Nat.le_refl, beq_self_eq_true, Nat.reduceBEq, ne_eq, not_true_eq_false, not_false_eq_true, Int32.reduceAdd, Int32.reduceSub, Int32.reduceMul, Int32.reduceLE, Int32.reduceLT, Int32.reduceToNatClampNeg, b01_0, b01_1, ne_2_0, ne_3_0, ne_4_0, ne_5_0, ne_6_0, ne_m1_0, ne_m2_0, b01_01, b01_n, lt_m2, lt_m1, le_m2, le_m1, Classical.not_not, Bool.or_false, Bool.false_or, Bool.true_or, Bool.or_true, j_Read_readLine_0, b_Read_readLine_0, j_Read_readLine_16, b_Read_readLine_16, j_Read_readLine_33, b_Read_readLine_33, j_Read_readLine_47, b_Read_readLine_47, j_Read_readLine_64, b_Read_readLine_64, j_Read_readLine_83, b_Read_readLine_83, j_Read_readLine_87, b_Read_readLine_87, an_0, an_1, an_6, cl_0, cl_1, cl_6, ne_0_1, ne_0_6, ne_1_0, ne_1_6, ne_6_0, ne_6_1, pp_12_0, sh_12, sh_13, vi_0, vi_1, vi_6, o2]
      refine ⟨fun q9 => ?_, fun q9 => ?_⟩
      · refine c_Tok_spells (d := d + 3) cr_bather hTM o4 o7 ?_
        simp only [cp_kk, cp_vc, cp_vs, cp_jm, cp_ent_en, cp_en_int, cp_en_ref, cp_en_ret, cp_en_long, cp_en_nil, cp_s1_at, cp_s2_at, cp_nl_int, cp_nl_ref, cp_nl_long, cp_nl_none, cp_pop_0, cp_pop_s, reduceIte, if_true, if_false, Bool.false_eq_true, Bool.true_eq_false, false_implies, implies_true, forall_const, true_implies, true_and, and_true, and_self, true_or, or_true, false_or, or_false, Value.category, List.length_cons, List.length_nil, Option.toList_some, Option.toList_none, List.cons_append, List.nil_append, List.append_nil, Prod.mk.injEq, Nat.add_zero, Nat.zero_add, Nat.reduceAdd, Nat.reduceSub, Nat.reduceEqDiff, Nat.reduceLeDiff, Nat.reduceLT, Nat.le_refl, beq_self_eq_true, Nat.reduceBEq, ne_eq, not_true_eq_false, not_false_eq_true, Int32.reduceAdd, Int32.reduceSub, Int32.reduceMul, Int32.reduceLE, Int32.reduceLT, Int32.reduceToNatClampNeg, b01_0, b01_1, ne_2_0, ne_3_0, ne_4_0, ne_5_0, ne_6_0, ne_m1_0, ne_m2_0, b01_01, b01_n, lt_m2, lt_m1, le_m2, le_m1, Classical.not_not, Bool.or_false, Bool.false_or, Bool.true_or, Bool.or_true, j_Read_readLine_0, b_Read_readLine_0, j_Read_readLine_16, b_Read_readLine_16, j_Read_readLine_33, b_Read_readLine_33, j_Read_readLine_47, b_Read_readLine_47, j_Read_readLine_64, b_Read_readLine_64, j_Read_readLine_83, b_Read_readLine_83, j_Read_readLine_87, b_Read_readLine_87, an_0, an_1, an_6, cl_0, cl_1, cl_6, ne_0_1, ne_0_6, ne_1_0, ne_1_6, ne_6_0, ne_6_1, pp_12_0, sh_12, sh_13, vi_0, vi_1, vi_6]
        refine ⟨fun b2 => ?_, fun b2 => ?_⟩
        · refine c_Tok_spells (d := d + 3) cr_felt hTM o4 o7 ?_
          simp only [cp_kk, cp_vc, cp_vs, cp_jm, cp_ent_en, cp_en_int, cp_en_ref, cp_en_ret, cp_en_long, cp_en_nil, cp_s1_at, cp_s2_at, cp_nl_int, cp_nl_ref, cp_nl_long, cp_nl_none, cp_pop_0, cp_pop_s, reduceIte, if_true, if_false, Bool.false_eq_true, Bool.true_eq_false, false_implies, implies_true, forall_const, true_implies, true_and, and_true, and_self, true_or, or_true, false_or, or_false, Value.category, List.length_cons, List.length_nil, Option.toList_some, Option.toList_none, List.cons_append, List.nil_append, List.append_nil, Prod.mk.injEq, Nat.add_zero, Nat.zero_add, Nat.reduceAdd, Nat.reduceSub, Nat.reduceEqDiff, Nat.reduceLeDiff, Nat.reduceLT, Nat.le_refl, beq_self_eq_true, Nat.reduceBEq, ne_eq, not_true_eq_false, not_false_eq_true, Int32.reduceAdd, Int32.reduceSub, Int32.reduceMul, Int32.reduceLE, Int32.reduceLT, Int32.reduceToNatClampNeg, b01_0, b01_1, ne_2_0, ne_3_0, ne_4_0, ne_5_0, ne_6_0, ne_m1_0, ne_m2_0, b01_01, b01_n, lt_m2, lt_m1, le_m2, le_m1, Classical.not_not, Bool.or_false, Bool.false_or, Bool.true_or, Bool.or_true, j_Read_readLine_0, b_Read_readLine_0, j_Read_readLine_16, b_Read_readLine_16, j_Read_readLine_33, b_Read_readLine_33, j_Read_readLine_47, b_Read_readLine_47, j_Read_readLine_64, b_Read_readLine_64, j_Read_readLine_83, b_Read_readLine_83, j_Read_readLine_87, b_Read_readLine_87, an_0, an_1, an_6, cl_0, cl_1, cl_6, ne_0_1, ne_0_6, ne_1_0, ne_1_6, ne_6_0, ne_6_1, pp_12_0, sh_12, sh_13, vi_0, vi_1, vi_6]
          refine ⟨fun b3 => ?_, fun b3 => ?_⟩
          · have hkfu : pw T n s.1 w_knows = true ∨ pw T n s.1 w_foes = true ∨ pw T n s.1 w_unsure = true := by
              have b1' : pw T n s.1 w_plunge = false := by simpa using b1
              have b2' : pw T n s.1 w_bather = false := by simpa using b2
              have b3' : pw T n s.1 w_felt = false := by simpa using b3
              simp only [lnw, b1', b2', b3', Bool.false_or, Bool.or_false, Bool.or_eq_true] at bl
              rcases bl with (z | z) | z
              · exact Or.inl z
              · exact Or.inr (Or.inl z)
              · exact Or.inr (Or.inr z)
            rcases hkfu with bk | bk | bk
            · have hf := pw_excl (w := w_foes) bk (by decide)
              have hu := pw_excl (w := w_unsure) bk (by decide)
              refine c_Read_readTie (q := 1) hr hT h hw hz (by omega) (by rw [hf]; rfl) (by rw [hu]; rfl) ?_
              intro M' b hL
              simp only [cp_kk, cp_vc, cp_vs, cp_jm, cp_ent_en, cp_en_int, cp_en_ref, cp_en_ret, cp_en_long, cp_en_nil, cp_s1_at, cp_s2_at, cp_nl_int, cp_nl_ref, cp_nl_long, cp_nl_none, cp_pop_0, cp_pop_s, reduceIte, if_true, if_false, Bool.false_eq_true, Bool.true_eq_false, false_implies, implies_true, forall_const, true_implies, true_and, and_true, and_self, true_or, or_true, false_or, or_false, Value.category, List.length_cons, List.length_nil, Option.toList_some, Option.toList_none, List.cons_append, List.nil_append, List.append_nil, Prod.mk.injEq, Nat.add_zero, Nat.zero_add, Nat.reduceAdd, Nat.reduceSub, Nat.reduceEqDiff, Nat.reduceLeDiff, Nat.reduceLT, Nat.le_refl, beq_self_eq_true, Nat.reduceBEq, ne_eq, not_true_eq_false, not_false_eq_true, Int32.reduceAdd, Int32.reduceSub, Int32.reduceMul, Int32.reduceLE, Int32.reduceLT, Int32.reduceToNatClampNeg, b01_0, b01_1, ne_2_0, ne_3_0, ne_4_0, ne_5_0, ne_6_0, ne_m1_0, ne_m2_0, b01_01, b01_n, lt_m2, lt_m1, le_m2, le_m1, Classical.not_not, Bool.or_false, Bool.false_or, Bool.true_or, Bool.or_true, j_Read_readLine_0, b_Read_readLine_0, j_Read_readLine_16, b_Read_readLine_16, j_Read_readLine_33, b_Read_readLine_33, j_Read_readLine_47, b_Read_readLine_47, j_Read_readLine_64, b_Read_readLine_64, j_Read_readLine_83, b_Read_readLine_83, j_Read_readLine_87, b_Read_readLine_87, an_0, an_1, an_6, cl_0, cl_1, cl_6, ne_0_1, ne_0_6, ne_1_0, ne_1_6, ne_6_0, ne_6_1, pp_12_0, sh_12, sh_13, vi_0, vi_1, vi_6]
              refine ⟨bret b M' J _ hL, hq M' J b ?_⟩
              rw [if_neg (by omega)] at hL
              simp only [p_line, b1, bl, q9, b2, bk, Bool.false_eq_true, if_false, if_true]
              exact hL
            · have hk := pw_excl (w := w_knows) bk (by decide)
              have hu := pw_excl (w := w_unsure) bk (by decide)
              refine c_Read_readTie (q := 2) hr hT h hw hz (by omega) (by rw [bk]; rfl) (by rw [hu]; rfl) ?_
              intro M' b hL
              simp only [cp_kk, cp_vc, cp_vs, cp_jm, cp_ent_en, cp_en_int, cp_en_ref, cp_en_ret, cp_en_long, cp_en_nil, cp_s1_at, cp_s2_at, cp_nl_int, cp_nl_ref, cp_nl_long, cp_nl_none, cp_pop_0, cp_pop_s, reduceIte, if_true, if_false, Bool.false_eq_true, Bool.true_eq_false, false_implies, implies_true, forall_const, true_implies, true_and, and_true, and_self, true_or, or_true, false_or, or_false, Value.category, List.length_cons, List.length_nil, Option.toList_some, Option.toList_none, List.cons_append, List.nil_append, List.append_nil, Prod.mk.injEq, Nat.add_zero, Nat.zero_add, Nat.reduceAdd, Nat.reduceSub, Nat.reduceEqDiff, Nat.reduceLeDiff, Nat.reduceLT, Nat.le_refl, beq_self_eq_true, Nat.reduceBEq, ne_eq, not_true_eq_false, not_false_eq_true, Int32.reduceAdd, Int32.reduceSub, Int32.reduceMul, Int32.reduceLE, Int32.reduceLT, Int32.reduceToNatClampNeg, b01_0, b01_1, ne_2_0, ne_3_0, ne_4_0, ne_5_0, ne_6_0, ne_m1_0, ne_m2_0, b01_01, b01_n, lt_m2, lt_m1, le_m2, le_m1, Classical.not_not, Bool.or_false, Bool.false_or, Bool.true_or, Bool.or_true, j_Read_readLine_0, b_Read_readLine_0, j_Read_readLine_16, b_Read_readLine_16, j_Read_readLine_33, b_Read_readLine_33, j_Read_readLine_47, b_Read_readLine_47, j_Read_readLine_64, b_Read_readLine_64, j_Read_readLine_83, b_Read_readLine_83, j_Read_readLine_87, b_Read_readLine_87, an_0, an_1, an_6, cl_0, cl_1, cl_6, ne_0_1, ne_0_6, ne_1_0, ne_1_6, ne_6_0, ne_6_1, pp_12_0, sh_12, sh_13, vi_0, vi_1, vi_6]
              refine ⟨bret b M' J _ hL, hq M' J b ?_⟩
              rw [if_neg (by omega)] at hL
              simp only [p_line, b1, bl, q9, b2, hk, bk, Bool.false_eq_true, if_false, if_true]
              exact hL
            · have hk := pw_excl (w := w_knows) bk (by decide)
              have hf := pw_excl (w := w_foes) bk (by decide)
              refine c_Read_readTie (q := 0) hr hT h hw hz (by omega) (by rw [hf]; rfl) (by rw [bk]; rfl) ?_
              intro M' b hL
              simp only [cp_kk, cp_vc, cp_vs, cp_jm, cp_ent_en, cp_en_int, cp_en_ref, cp_en_ret, cp_en_long, cp_en_nil, cp_s1_at, cp_s2_at, cp_nl_int, cp_nl_ref, cp_nl_long, cp_nl_none, cp_pop_0, cp_pop_s, reduceIte, if_true, if_false, Bool.false_eq_true, Bool.true_eq_false, false_implies, implies_true, forall_const, true_implies, true_and, and_true, and_self, true_or, or_true, false_or, or_false, Value.category, List.length_cons, List.length_nil, Option.toList_some, Option.toList_none, List.cons_append, List.nil_append, List.append_nil, Prod.mk.injEq, Nat.add_zero, Nat.zero_add, Nat.reduceAdd, Nat.reduceSub, Nat.reduceEqDiff, Nat.reduceLeDiff, Nat.reduceLT, Nat.le_refl, beq_self_eq_true, Nat.reduceBEq, ne_eq, not_true_eq_false, not_false_eq_true, Int32.reduceAdd, Int32.reduceSub, Int32.reduceMul, Int32.reduceLE, Int32.reduceLT, Int32.reduceToNatClampNeg, b01_0, b01_1, ne_2_0, ne_3_0, ne_4_0, ne_5_0, ne_6_0, ne_m1_0, ne_m2_0, b01_01, b01_n, lt_m2, lt_m1, le_m2, le_m1, Classical.not_not, Bool.or_false, Bool.false_or, Bool.true_or, Bool.or_true, j_Read_readLine_0, b_Read_readLine_0, j_Read_readLine_16, b_Read_readLine_16, j_Read_readLine_33, b_Read_readLine_33, j_Read_readLine_47, b_Read_readLine_47, j_Read_readLine_64, b_Read_readLine_64, j_Read_readLine_83, b_Read_readLine_83, j_Read_readLine_87, b_Read_readLine_87, an_0, an_1, an_6, cl_0, cl_1, cl_6, ne_0_1, ne_0_6, ne_1_0, ne_1_6, ne_6_0, ne_6_1, pp_12_0, sh_12, sh_13, vi_0, vi_1, vi_6]
              refine ⟨bret b M' J _ hL, hq M' J b ?_⟩
              simp only [true_and] at hL
              simp only [p_line, b1, bl, q9, b2, hk, hf, bk, Bool.false_eq_true, if_false, if_true]
              exact hL
          · have hk := pw_excl (w := w_knows) b3 (by decide)
            have hf := pw_excl (w := w_foes) b3 (by decide)
            have hu := pw_excl (w := w_unsure) b3 (by decide)
            refine c_Read_readFelt hr hT h hw ?_
            intro M' b hL
            simp only [cp_kk, cp_vc, cp_vs, cp_jm, cp_ent_en, cp_en_int, cp_en_ref, cp_en_ret, cp_en_long, cp_en_nil, cp_s1_at, cp_s2_at, cp_nl_int, cp_nl_ref, cp_nl_long, cp_nl_none, cp_pop_0, cp_pop_s, reduceIte, if_true, if_false, Bool.false_eq_true, Bool.true_eq_false, false_implies, implies_true, forall_const, true_implies, true_and, and_true, and_self, true_or, or_true, false_or, or_false, Value.category, List.length_cons, List.length_nil, Option.toList_some, Option.toList_none, List.cons_append, List.nil_append, List.append_nil, Prod.mk.injEq, Nat.add_zero, Nat.zero_add, Nat.reduceAdd, Nat.reduceSub, Nat.reduceEqDiff, Nat.reduceLeDiff, Nat.reduceLT, Nat.le_refl, beq_self_eq_true, Nat.reduceBEq, ne_eq, not_true_eq_false, not_false_eq_true, Int32.reduceAdd, Int32.reduceSub, Int32.reduceMul, Int32.reduceLE, Int32.reduceLT, Int32.reduceToNatClampNeg, b01_0, b01_1, ne_2_0, ne_3_0, ne_4_0, ne_5_0, ne_6_0, ne_m1_0, ne_m2_0, b01_01, b01_n, lt_m2, lt_m1, le_m2, le_m1, Classical.not_not, Bool.or_false, Bool.false_or, Bool.true_or, Bool.or_true, j_Read_readLine_0, b_Read_readLine_0, j_Read_readLine_16, b_Read_readLine_16, j_Read_readLine_33, b_Read_readLine_33, j_Read_readLine_47, b_Read_readLine_47, j_Read_readLine_64, b_Read_readLine_64, j_Read_readLine_83, b_Read_readLine_83, j_Read_readLine_87, b_Read_readLine_87, an_0, an_1, an_6, cl_0, cl_1, cl_6, ne_0_1, ne_0_6, ne_1_0, ne_1_6, ne_6_0, ne_6_1, pp_12_0, sh_12, sh_13, vi_0, vi_1, vi_6]
            refine ⟨bret b M' J _ hL, hq M' J b ?_⟩
            simp only [p_line, b1, bl, q9, b2, hk, hf, hu, Bool.false_eq_true, if_false, if_true]
            exact hL
        · refine c_Read_readBather (d := d + 1) hr hT h w2 w1 ?_
          intro M' J' b hL
          simp only [cp_kk, cp_vc, cp_vs, cp_jm, cp_ent_en, cp_en_int, cp_en_ref, cp_en_ret, cp_en_long, cp_en_nil, cp_s1_at, cp_s2_at, cp_nl_int, cp_nl_ref, cp_nl_long, cp_nl_none, cp_pop_0, cp_pop_s, reduceIte, if_true, if_false, Bool.false_eq_true, Bool.true_eq_false, false_implies, implies_true, forall_const, true_implies, true_and, and_true, and_self, true_or, or_true, false_or, or_false, Value.category, List.length_cons, List.length_nil, Option.toList_some, Option.toList_none, List.cons_append, List.nil_append, List.append_nil, Prod.mk.injEq, Nat.add_zero, Nat.zero_add, Nat.reduceAdd, Nat.reduceSub, Nat.reduceEqDiff, Nat.reduceLeDiff, Nat.reduceLT, Nat.le_refl, beq_self_eq_true, Nat.reduceBEq, ne_eq, not_true_eq_false, not_false_eq_true, Int32.reduceAdd, Int32.reduceSub, Int32.reduceMul, Int32.reduceLE, Int32.reduceLT, Int32.reduceToNatClampNeg, b01_0, b01_1, ne_2_0, ne_3_0, ne_4_0, ne_5_0, ne_6_0, ne_m1_0, ne_m2_0, b01_01, b01_n, lt_m2, lt_m1, le_m2, le_m1, Classical.not_not, Bool.or_false, Bool.false_or, Bool.true_or, Bool.or_true, j_Read_readLine_0, b_Read_readLine_0, j_Read_readLine_16, b_Read_readLine_16, j_Read_readLine_33, b_Read_readLine_33, j_Read_readLine_47, b_Read_readLine_47, j_Read_readLine_64, b_Read_readLine_64, j_Read_readLine_83, b_Read_readLine_83, j_Read_readLine_87, b_Read_readLine_87, an_0, an_1, an_6, cl_0, cl_1, cl_6, ne_0_1, ne_0_6, ne_1_0, ne_1_6, ne_6_0, ne_6_1, pp_12_0, sh_12, sh_13, vi_0, vi_1, vi_6]
          refine ⟨bret b M' J' _ hL, hq M' J' b ?_⟩
          simp only [p_line, b1, bl, q9, b2, if_false, if_true]
          exact hL
      · refine c_Read_meet (d := d + 7) o4.2.2.1 ?_
        intro M' f1 f2 f3
        simp only [cp_kk, cp_vc, cp_vs, cp_jm, cp_ent_en, cp_en_int, cp_en_ref, cp_en_ret, cp_en_long, cp_en_nil, cp_s1_at, cp_s2_at, cp_nl_int, cp_nl_ref, cp_nl_long, cp_nl_none, cp_pop_0, cp_pop_s, reduceIte, if_true, if_false, Bool.false_eq_true, Bool.true_eq_false, false_implies, implies_true, forall_const, true_implies, true_and, and_true, and_self, true_or, or_true, false_or, or_false, Value.category, List.length_cons, List.length_nil, Option.toList_some, Option.toList_none, List.cons_append, List.nil_append, List.append_nil, Prod.mk.injEq, Nat.add_zero, Nat.zero_add, Nat.reduceAdd, Nat.reduceSub, Nat.reduceEqDiff, Nat.reduceLeDiff, Nat.reduceLT, Nat.le_refl, beq_self_eq_true, Nat.reduceBEq, ne_eq, not_true_eq_false, not_false_eq_true, Int32.reduceAdd, Int32.reduceSub, Int32.reduceMul, Int32.reduceLE, Int32.reduceLT, Int32.reduceToNatClampNeg, b01_0, b01_1, ne_2_0, ne_3_0, ne_4_0, ne_5_0, ne_6_0, ne_m1_0, ne_m2_0, b01_01, b01_n, lt_m2, lt_m1, le_m2, le_m1, Classical.not_not, Bool.or_false, Bool.false_or, Bool.true_or, Bool.or_true, j_Read_readLine_0, b_Read_readLine_0, j_Read_readLine_16, b_Read_readLine_16, j_Read_readLine_33, b_Read_readLine_33, j_Read_readLine_47, b_Read_readLine_47, j_Read_readLine_64, b_Read_readLine_64, j_Read_readLine_83, b_Read_readLine_83, j_Read_readLine_87, b_Read_readLine_87, an_0, an_1, an_6, cl_0, cl_1, cl_6, ne_0_1, ne_0_6, ne_1_0, ne_1_6, ne_6_0, ne_6_1, pp_12_0, sh_12, sh_13, vi_0, vi_1, vi_6]
        refine hq M' J 0 ?_
        simp only [p_line, b1, bl, q9, if_false, if_true]
        exact ⟨rfl, cE_k o1 f1 f2 f3, jr⟩
    · refine c_Read_readHead (d := d + 1) hr hT h w3 ?_
      intro M' b hL
      simp only [cp_kk, cp_vc, cp_vs, cp_jm, cp_ent_en, cp_en_int, cp_en_ref, cp_en_ret, cp_en_long, cp_en_nil, cp_s1_at, cp_s2_at, cp_nl_int, cp_nl_ref, cp_nl_long, cp_nl_none, cp_pop_0, cp_pop_s, reduceIte, if_true, if_false, Bool.false_eq_true, Bool.true_eq_false, false_implies, implies_true, forall_const, true_implies, true_and, and_true, and_self, true_or, or_true, false_or, or_false, Value.category, List.length_cons, List.length_nil, Option.toList_some, Option.toList_none, List.cons_append, List.nil_append, List.append_nil, Prod.mk.injEq, Nat.add_zero, Nat.zero_add, Nat.reduceAdd, Nat.reduceSub, Nat.reduceEqDiff, Nat.reduceLeDiff, Nat.reduceLT, Nat.le_refl, beq_self_eq_true, Nat.reduceBEq, ne_eq, not_true_eq_false, not_false_eq_true, Int32.reduceAdd, Int32.reduceSub, Int32.reduceMul, Int32.reduceLE, Int32.reduceLT, Int32.reduceToNatClampNeg, b01_0, b01_1, ne_2_0, ne_3_0, ne_4_0, ne_5_0, ne_6_0, ne_m1_0, ne_m2_0, b01_01, b01_n, lt_m2, lt_m1, le_m2, le_m1, Classical.not_not, Bool.or_false, Bool.false_or, Bool.true_or, Bool.or_true, j_Read_readLine_0, b_Read_readLine_0, j_Read_readLine_16, b_Read_readLine_16, j_Read_readLine_33, b_Read_readLine_33, j_Read_readLine_47, b_Read_readLine_47, j_Read_readLine_64, b_Read_readLine_64, j_Read_readLine_83, b_Read_readLine_83, j_Read_readLine_87, b_Read_readLine_87, an_0, an_1, an_6, cl_0, cl_1, cl_6, ne_0_1, ne_0_6, ne_1_0, ne_1_6, ne_6_0, ne_6_1, pp_12_0, sh_12, sh_13, vi_0, vi_1, vi_6]
      refine ⟨bret b M' J _ hL, hq M' J b ?_⟩
      simp only [p_line, b1, if_true]
      exact hL
  · refine c_Read_meet (d := d + 7) o4.2.2.1 ?_
    intro M' f1 f2 f3
    simp only [cp_kk, cp_vc, cp_vs, cp_jm, cp_ent_en, cp_en_int, cp_en_ref, cp_en_ret, cp_en_long, cp_en_nil, cp_s1_at, cp_s2_at, cp_nl_int, cp_nl_ref, cp_nl_long, cp_nl_none, cp_pop_0, cp_pop_s, reduceIte, if_true, if_false, Bool.false_eq_true, Bool.true_eq_false, false_implies, implies_true, forall_const, true_implies, true_and, and_true, and_self, true_or, or_true, false_or, or_false, Value.category, List.length_cons, List.length_nil, Option.toList_some, Option.toList_none, List.cons_append, List.nil_append, List.append_nil, Prod.mk.injEq, Nat.add_zero, Nat.zero_add, Nat.reduceAdd, Nat.reduceSub, Nat.reduceEqDiff, Nat.reduceLeDiff, Nat.reduceLT, Nat.le_refl, beq_self_eq_true, Nat.reduceBEq, ne_eq, not_true_eq_false, not_false_eq_true, Int32.reduceAdd, Int32.reduceSub, Int32.reduceMul, Int32.reduceLE, Int32.reduceLT, Int32.reduceToNatClampNeg, b01_0, b01_1, ne_2_0, ne_3_0, ne_4_0, ne_5_0, ne_6_0, ne_m1_0, ne_m2_0, b01_01, b01_n, lt_m2, lt_m1, le_m2, le_m1, Classical.not_not, Bool.or_false, Bool.false_or, Bool.true_or, Bool.or_true, j_Read_readLine_0, b_Read_readLine_0, j_Read_readLine_16, b_Read_readLine_16, j_Read_readLine_33, b_Read_readLine_33, j_Read_readLine_47, b_Read_readLine_47, j_Read_readLine_64, b_Read_readLine_64, j_Read_readLine_83, b_Read_readLine_83, j_Read_readLine_87, b_Read_readLine_87, an_0, an_1, an_6, cl_0, cl_1, cl_6, ne_0_1, ne_0_6, ne_1_0, ne_1_6, ne_6_0, ne_6_1, pp_12_0, sh_12, sh_13, vi_0, vi_1, vi_6]
    refine hq M' J 0 ?_
    have b1 : pw T n s.1 w_plunge = false := by
      cases hh : pw T n s.1 w_plunge with
      | false => rfl
      | true => exact absurd (by simp [lnw, hh]) bl
    simp only [p_line, b1, bl, Bool.false_eq_true, if_false]
    exact ⟨rfl, cE_k o1 f1 f2 f3, jr⟩
end Read8
