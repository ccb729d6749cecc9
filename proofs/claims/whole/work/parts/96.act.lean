section Act1
variable {g : cp_G} {d : Nat} {I M N : cp_I} {J : cp_J} {Q : cp_QT} {t u r x n s m : Nat}
/-! acts: what changes, and that the invariant holds again -/
def wa (a : Nat) : Bool := a == 1 || (decide (2 ≤ a) && decide (a ≤ 11)) || (decide (16 ≤ a) && decide (a ≤ 25)) || a == 45 || a == 47 || a == 55
theorem wa_ne {a : Nat} (h : wa a = true) : a ≠ 0 ∧ a ≠ 12 ∧ a ≠ 13 ∧ a ≠ 15 ∧ ¬ (26 ≤ a ∧ a ≤ 36) ∧ a ≠ 44 ∧ a ≠ 46 ∧ a ≠ 48 ∧ a ≠ 49 ∧ a ≠ 50 ∧ a ≠ 51 := by
  simp only [wa, Bool.or_eq_true, Bool.and_eq_true, decide_eq_true_eq, beq_iff_eq] at h
  omega
theorem wa_t {t k : Nat} (ht : tk t) (hk : k ≤ 9) : wa (t + k) = true := by
  simp only [wa, Bool.or_eq_true, Bool.and_eq_true, decide_eq_true_eq, beq_iff_eq]
  rcases ht with rfl | rfl <;> omega
def kA (I N : cp_I) : Prop := (∀ a j, wa a = true → N a j = I a j) ∧ (∀ j, (j = 2 ∨ j = 9 ∨ j = 10 ∨ j = 14) → N 44 j = I 44 j) ∧ ∀ j, ¬ j = 2 → N 0 j = I 0 j
theorem rowR_c {ρ ρ' o o' s' m' : Nat} {ps : Int32} (e4 : ∀ j, N (t + 4) j = I (t + 4) j) (e : ∀ k, k < 39 → N ρ' (o' + k) = I ρ (o + k)) (h : rowR I t ρ o s' m' ps) : rowR N t ρ' o' s' m' ps := by
  obtain ⟨h1, h2, h3, h4⟩ := h
  have ec : ctm N t = ctm I t := by funext m' a b; unfold ctm; rw [e4]
  refine ⟨fun a b ha hb => ?_, ?_, ?_, ?_⟩
  · rw [e _ (by omega), ec]
    exact h1 a b ha hb
  · rw [e _ (by omega)]
    exact h2
  · rw [e _ (by omega)]
    exact h3
  · rw [e _ (by omega)]
    exact h4
theorem rowI_c {ρ ρ' o o' : Nat} {a b c : Int32} (e4 : ∀ j, N (t + 4) j = I (t + 4) j) (e : ∀ k, k < 39 → N ρ' (o' + k) = I ρ (o + k)) (h : rowI I t n ρ o a b c) : rowI N t n ρ' o' a b c := by
  obtain ⟨s', m', h1, h2, h3, h4, h5⟩ := h
  exact ⟨s', m', h1, h2, h3, h4, rowR_c e4 e h5⟩
theorem iv_act {s' m' : Nat} (h : Iv0 I t u n s m) (hn : 0 < n) (hs : s' < 2 ^ n) (hm : mOK m') (k : kA I N) (hin : N 15 1 = nI s') (hme : N 15 2 = nI m') (hr : rowR N t 49 0 s' m' (N 15 3)) (hb : bOK N t n m') (hH : ivH N t n) : Iv0 N t u n s' m' := by
  obtain ⟨k1, k2, k3⟩ := k
  have ht := h.1.1
  have w47 : N 47 = I 47 := funext fun j => k1 47 j (by decide)
  have w55 : N 55 = I 55 := funext fun j => k1 55 j (by decide)
  have w45 : N 45 = I 45 := funext fun j => k1 45 j (by decide)
  have w1 : N 1 = I 1 := funext fun j => k1 1 j (by decide)
  have tt : ∀ k, k ≤ 9 → N (t + k) = I (t + k) := fun k hk => funext fun j => k1 (t + k) j (wa_t ht hk)
  have t0 : N t = I t := tt 0 (by omega)
  have ef : cFr (N 47) N t = cFr (I 47) I t := by
    unfold cFr
    rw [w47, t0, tt 2 (by omega), tt 3 (by omega), tt 4 (by omega), tt 5 (by omega), tt 6 (by omega), tt 7 (by omega), tt 8 (by omega), tt 9 (by omega)]
  obtain ⟨hB, -, hT, -, hu, h3⟩ := h
  obtain ⟨a1, a2, a3, a4, a5, a6, a7, a8, -, -, -, -, -, -, a9⟩ := hB
  refine ⟨⟨a1, a2, by rw [w47]; exact a3, by rw [k2 14 (by omega)]; exact a4, by rw [w47]; exact a5, by rw [ef]; exact a6, by rw [w47]; exact a7, by rw [w47]; exact a8, hs, hm, hin, hme, hr, hb, by rw [w55]; exact a9⟩, hH, ?_, fun z => absurd z (by omega), hu, ?_⟩
  · unfold ivT
    rw [k2 2 (by omega), k3 1 (by omega), w45, w1]
    exact hT
  · rw [k3 3 (by omega), k2 9 (by omega)]
    exact h3
/-- what is known of what was kept -/
def hiF (I : cp_I) (t n p q qi : Nat) : Prop := p < 16 ∧ q ≤ 16 ∧ qi ≤ 3 ∧ I 30 6 = nI p ∧ I 30 7 = nI q ∧ I 44 20 = nI q ∧ I 30 8 = nI qi ∧ I 44 21 = nI qi ∧ (∀ j, j < q → rowI I t n 50 (39 * j) (I 31 ((p + 16 - q + j) % 16)) (I 32 ((p + 16 - q + j) % 16)) (I 33 ((p + 16 - q + j) % 16))) ∧ ∀ j, j < qi → rowI I t n 51 (39 * j) (I 34 j) (I 35 j) (I 36 j)
theorem ivH_keep {p q qi : Nat} (hB : ivB I t n s m) (hf : hiF I t n p q qi) (e4 : ∀ j, N (t + 4) j = I (t + 4) j) (n6 : N 30 6 = nI ((p + 1) % 16)) (n7 : N 30 7 = nI (min 16 (q + 1))) (n20 : N 44 20 = nI (min 16 (q + 1))) (n8 : N 30 8 = I 30 8) (n21 : N 44 21 = I 44 21)
    (n3 : ∀ a j, a = 34 ∨ a = 35 ∨ a = 36 ∨ a = 51 → N a j = I a j) (r31 : ∀ j, N 31 j = if j = p then I 15 1 else I 31 j) (r32 : ∀ j, N 32 j = if j = p then I 15 2 else I 32 j) (r33 : ∀ j, N 33 j = if j = p then I 15 3 else I 33 j)
    (n50 : ∀ k, N 50 k = if q = 16 then (if k < 585 then I 50 (k + 39) else if k < 624 then I 49 (k - 585) else I 50 k) else if 39 * q ≤ k ∧ k < 39 * q + 39 then I 49 (k - 39 * q) else I 50 k) : ivH N t n := by
  obtain ⟨hp, hq, hqi, -, -, -, h8, h21, hr, hi⟩ := hf
  have hnow : rowI I t n 49 0 (I 15 1) (I 15 2) (I 15 3) := ⟨s, m, iv_s hB, iv_mOK hB, iv_in hB, iv_m hB, iv_row hB⟩
  refine ⟨(p + 1) % 16, min 16 (q + 1), qi, Nat.mod_lt _ (by omega), by omega, hqi, n6, n7, n20, by rw [n8, h8], by rw [n21, h21], fun j hj => ?_, fun j hj => ?_⟩
  · by_cases q16 : q = 16
    · subst q16
      rw [show min 16 (16 + 1) = 16 from rfl] at hj ⊢
      by_cases e : j = 15
      · subst e
        rw [show ((p + 1) % 16 + 16 - 16 + 15) % 16 = p by omega, r31, if_pos rfl, r32, if_pos rfl, r33, if_pos rfl]
        refine rowI_c e4 (fun k hk => ?_) hnow
        rw [n50, if_pos rfl, if_neg (by omega), if_pos (by omega), show 39 * 15 + k - 585 = 0 + k by omega]
      · have hidx : ((p + 1) % 16 + 16 - 16 + j) % 16 = (p + 16 - 16 + (j + 1)) % 16 := by omega
        have hnp : ¬ (p + 16 - 16 + (j + 1)) % 16 = p := by omega
        rw [hidx, r31, if_neg hnp, r32, if_neg hnp, r33, if_neg hnp]
        refine rowI_c e4 (fun k hk => ?_) (hr (j + 1) (by omega))
        rw [n50, if_pos rfl, if_pos (by omega), show 39 * j + k + 39 = 39 * (j + 1) + k by omega]
    · have hm : min 16 (q + 1) = q + 1 := by omega
      rw [hm] at hj ⊢
      by_cases e : j = q
      · subst e
        rw [show ((p + 1) % 16 + 16 - (j + 1) + j) % 16 = p by omega, r31, if_pos rfl, r32, if_pos rfl, r33, if_pos rfl]
        refine rowI_c e4 (fun k hk => ?_) hnow
        rw [n50, if_neg q16, if_pos (by omega), show 39 * j + k - 39 * j = 0 + k by omega]
      · have hidx : ((p + 1) % 16 + 16 - (q + 1) + j) % 16 = (p + 16 - q + j) % 16 := by omega
        have hnp : ¬ (p + 16 - q + j) % 16 = p := by omega
        rw [hidx, r31, if_neg hnp, r32, if_neg hnp, r33, if_neg hnp]
        refine rowI_c e4 (fun k hk => ?_) (hr j (by omega))
        rw [n50, if_neg q16, if_neg (by omega)]
  · rw [n3 34 j (by omega), n3 35 j (by omega), n3 36 j (by omega)]
    exact rowI_c e4 (fun k hk => n3 51 _ (by omega)) (hi j hj)
theorem nte_o {q a j : Nat} (h : ¬ a = 50) (h' : ¬ (a = 44 ∧ j = 20)) : nte I q a j = I a j := by
  unfold nte
  by_cases e : q = 16
  · rw [if_pos e, cp_u_at, if_neg h']
    unfold cpy
    rw [if_neg (by omega), cp_u_at, if_neg h']
    unfold shf
    rw [if_neg (by omega)]
  · rw [if_neg e, cp_u_at, if_neg h']
    unfold cpy
    rw [if_neg (by omega)]
theorem nte_20 {q : Nat} (hq : q ≤ 16) : nte I q 44 20 = nI (min 16 (q + 1)) := by
  unfold nte
  by_cases e : q = 16
  · rw [if_pos e, cp_u_at, if_pos ⟨rfl, rfl⟩, show min 16 (q + 1) = 16 by omega]
  · rw [if_neg e, cp_u_at, if_pos ⟨rfl, rfl⟩, show min 16 (q + 1) = q + 1 by omega]
theorem nte_50 {q : Nat} (k : Nat) : nte I q 50 k = if q = 16 then (if k < 585 then I 50 (k + 39) else if k < 624 then I 49 (k - 585) else I 50 k) else if 39 * q ≤ k ∧ k < 39 * q + 39 then I 49 (k - 39 * q) else I 50 k := by
  unfold nte
  by_cases e : q = 16
  · rw [if_pos e, if_pos e, cp_u_at, if_neg (by omega)]
    unfold cpy
    by_cases c : k < 585
    · rw [if_neg (by omega), if_pos c, cp_u_at, if_neg (by omega)]
      unfold shf
      rw [if_pos ⟨rfl, c⟩]
    · rw [if_neg c]
      by_cases c2 : k < 624
      · rw [if_pos ⟨rfl, by omega, by omega⟩, if_pos c2, cp_u_at, if_neg (by omega)]
        unfold shf
        rw [if_neg (by omega), Nat.zero_add]
      · rw [if_neg (by omega), if_neg c2, cp_u_at, if_neg (by omega)]
        unfold shf
        rw [if_neg (by omega)]
  · rw [if_neg e, if_neg e, cp_u_at, if_neg (by omega)]
    unfold cpy
    by_cases c : 39 * q ≤ k ∧ k < 39 * q + 39
    · rw [if_pos ⟨rfl, c⟩, if_pos c, Nat.zero_add]
    · rw [if_neg (by omega), if_neg c]
theorem kpM_o {p q a j : Nat} (h : ¬ (30 ≤ a ∧ a ≤ 33)) : kpM I p q a j = I a j := by
  unfold kpM
  simp only [cp_u_at]
  rw [if_neg (by omega), if_neg (by omega), if_neg (by omega), if_neg (by omega), if_neg (by omega)]
theorem kpM_r {p q : Nat} (j : Nat) : kpM I p q 31 j = (if j = p then I 15 1 else I 31 j) ∧ kpM I p q 32 j = (if j = p then I 15 2 else I 32 j) ∧ kpM I p q 33 j = (if j = p then I 15 3 else I 33 j) := by
  unfold kpM
  by_cases e : j = p
  · simp [cp_u_at, e]
  · simp [cp_u_at, e]
theorem kpM_30 {p q : Nat} : kpM I p q 30 6 = nI ((p + 1) % 16) ∧ kpM I p q 30 7 = nI (min 16 (q + 1)) ∧ kpM I p q 30 8 = I 30 8 := by
  unfold kpM
  simp [cp_u_at]
theorem gd_o {a j : Nat} (h : ¬ a = 44) : gd I a j = I a j := by
  unfold gd
  rw [cp_u_at, if_neg (by omega), cp_u_at, if_neg (by omega)]
theorem gd_44 {j : Nat} (h : ¬ j = 0) (h' : ¬ j = 11) : gd I 44 j = I 44 j := by
  unfold gd
  rw [cp_u_at, if_neg (by omega), cp_u_at, if_neg (by omega)]
theorem gd_11 : gd I 44 11 = 0 := by
  unfold gd
  rw [cp_u_at, if_pos ⟨rfl, rfl⟩]
theorem stk_o {p q a j : Nat} (hM : stF (kpM I p q) M) (h : ¬ (26 ≤ a ∧ a ≤ 33)) (h15 : ¬ a = 15) : M a j = I a j := by
  rw [hM a j (by omega) (by omega), kpM_o (by omega)]
/-- an act that is kept -/
theorem iv_step {p q qi s' m' : Nat} (h : Iv0 I t u n s m) (hf : hiF I t n p q qi) (hM : stF (kpM I p q) M) (m1 : M 15 1 = nI s') (m2 : M 15 2 = nI m') (mB : bOK M t n m') (hn : 0 < n) (hs' : s' < 2 ^ n) (hm' : mOK m') (eN : ∀ a j, ¬ a = 49 → N a j = nte (gd M) q a j) (hr : rowR N t 49 0 s' m' (N 15 3)) (h2 : I 0 2 = 0) : Iv0 N t u n s' m' ∧ N 0 2 = 0 ∧ N 44 11 = 0 := by
  have ht := h.1.1
  have hq := hf.2.1
  have o1 : ∀ a j, ¬ a = 49 → ¬ a = 50 → ¬ a = 44 → N a j = M a j := fun a j h1 h2 h3 => by rw [eN a j h1, nte_o h2 (by omega), gd_o h3]
  have o2 : ∀ a j, ¬ a = 49 → ¬ a = 50 → ¬ a = 44 → ¬ (26 ≤ a ∧ a ≤ 33) → ¬ a = 15 → N a j = I a j := fun a j h1 h2 h3 h4 h5 => by rw [o1 a j h1 h2 h3, stk_o hM h4 h5]
  have o44 : ∀ j, ¬ j = 20 → ¬ j = 0 → ¬ j = 11 → N 44 j = I 44 j := fun j h1 h2 h3 => by rw [eN 44 j (by omega), nte_o (by omega) (by omega), gd_44 h2 h3, stk_o hM (by omega) (by omega)]
  have e4 : ∀ j, N (t + 4) j = I (t + 4) j := fun j => by
    have := wa_ne (wa_t ht (show 4 ≤ 9 by omega))
    exact o2 _ j (by omega) (by omega) (by omega) (by omega) (by omega)
  have ring : ∀ a j, 30 ≤ a → a ≤ 33 → N a j = kpM I p q a j := fun a j h1 h2 => by rw [o1 a j (by omega) (by omega) (by omega), hM a j (by omega) (by omega)]
  have hH : ivH N t n := by
    refine ivH_keep h.1 hf e4 ?_ ?_ ?_ ?_ ?_ ?_ ?_ ?_ ?_ ?_
    · rw [ring 30 6 (by omega) (by omega)]
      exact kpM_30.1
    · rw [ring 30 7 (by omega) (by omega)]
      exact kpM_30.2.1
    · rw [eN 44 20 (by omega)]
      exact nte_20 hq
    · rw [ring 30 8 (by omega) (by omega)]
      exact kpM_30.2.2
    · exact o44 21 (by omega) (by omega) (by omega)
    · intro a j ha
      exact o2 a j (by omega) (by omega) (by omega) (by omega) (by omega)
    · intro j
      rw [ring 31 j (by omega) (by omega)]
      exact (kpM_r j).1
    · intro j
      rw [ring 32 j (by omega) (by omega)]
      exact (kpM_r j).2.1
    · intro j
      rw [ring 33 j (by omega) (by omega)]
      exact (kpM_r j).2.2
    · intro k
      rw [eN 50 k (by omega), nte_50]
      simp only [gd_o (show ¬ (50 : Nat) = 44 by omega), gd_o (show ¬ (49 : Nat) = 44 by omega), stk_o hM (show ¬ (26 ≤ 50 ∧ 50 ≤ 33) by omega) (show ¬ 50 = 15 by omega), stk_o hM (show ¬ (26 ≤ 49 ∧ 49 ≤ 33) by omega) (show ¬ 49 = 15 by omega)]
  have hb : bOK N t n m' := bOK_o mB (fun k j hk => by
    have := wa_ne (wa_t ht hk)
    exact o1 _ j (by omega) (by omega) (by omega)) (fun a j h1 h2 => o1 a j (by omega) (by omega) (by omega))
  have k : kA I N := by
    refine ⟨fun a j ha => ?_, fun j hj => o44 j (by omega) (by omega) (by omega), fun j _ => o2 0 j (by omega) (by omega) (by omega) (by omega) (by omega)⟩
    have := wa_ne ha
    exact o2 a j (by omega) (by omega) (by omega) (by omega) (by omega)
  have h0 := iv_act h hn hs' hm' k (by rw [o1 15 1 (by omega) (by omega) (by omega)]; exact m1) (by rw [o1 15 2 (by omega) (by omega) (by omega)]; exact m2) hr hb hH
  have e2 : N 0 2 = 0 := by rw [o2 0 2 (by omega) (by omega) (by omega) (by omega) (by omega)]; exact h2
  refine ⟨h0, e2, ?_⟩
  rw [eN 44 11 (by omega), nte_o (by omega) (by omega), gd_11]
theorem iv_of {s' m' : Nat} (h : Iv0 N t u n s' m' ∧ N 0 2 = 0 ∧ N 44 11 = 0) : Iv N t u := by
  refine ⟨⟨n, s', m', h.1⟩, by rw [h.2.1, h.2.2], fun z => ?_⟩
  rw [h.2.1] at z
  exact absurd z (by decide +kernel)
theorem c_CP_turn {b p q qi : Nat} {f : Int32} (hB : ivB I t n s m) (hb : b < n) (hf : hiF I t n p q qi)
    (h5 : ¬ (if s.testBit b = true then (1 : Int32) else 0) = f → Q (some (.int (-1))) SH (rfu I 5) J (PP t u r x))
    (h1 : (if s.testBit b = true then (1 : Int32) else 0) = f → ∀ M, stF (kpM I p q) M → M 15 1 = nI (s ^^^ 2 ^ b) → M 15 2 = nI m → M 15 3 = I 15 3 → bOK M t n m → Q (some (.int (cw M (s ^^^ 2 ^ b)))) SH M J (PP t u r x)) : MW g false (d + 7) 0 0 m_CP_turn [.ref 0, .int (nI b), .int f] SH I J (PP t u r x) Q := by
  have h6 := iv_n6 hB
  have ht := iv_tk hB
  have w3 := hb_val (iv_64 hB) (show b < 8 by omega)
  have kt : ∀ k j, k ≤ 9 → kpM I p q (t + k) j = I (t + k) j := fun k j hk => by
    have := wa_ne (wa_t ht hk)
    exact kpM_o (by omega)
  have k15 : ∀ j, kpM I p q 15 j = I 15 j := fun j => kpM_o (by omega)
  refine MW.of ok_CP_turn (Nat.le_of_ble_eq_true rfl) ?_
  by_cases c : (if s.testBit b = true then (1 : Int32) else 0) = f
  · refine cp_run 60 (fun _ => false) ck_CP_turn ?_
    simp only [cp_vc, cp_vs, cp_jm, cp_ent_en, cp_en_int, cp_en_ref, cp_en_ret, cp_en_long, cp_en_nil, cp_s1_at, cp_s2_at, cp_nl_int, cp_nl_ref, cp_nl_long, cp_nl_none, cp_pop_0, cp_pop_s, reduceIte, if_true, if_false, Bool.false_eq_true, Bool.true_eq_false, false_implies, implies_true, forall_const, true_implies, true_and, and_true, and_self, true_or, or_true, false_or, or_false, Value.category, List.length_cons, List.length_nil, Option.toList_some, Option.toList_none, List.cons_append, List.nil_append, List.append_nil, Prod.mk.injEq, Nat.add_zero, Nat.zero_add, Nat.reduceAdd, Nat.reduceSub, Nat.reduceEqDiff, Nat.reduceLeDiff, Nat.reduceLT, Nat.le_refl, beq_self_eq_true, Nat.reduceBEq, ne_eq, not_true_eq_false, not_false_eq_true, Int32.reduceAdd, Int32.reduceSub, Int32.reduceMul, Int32.reduceLE, Int32.reduceLT, Int32.reduceToNatClampNeg, b01_0, b01_1, ne_2_0, ne_3_0, ne_4_0, ne_5_0, ne_6_0, ne_m1_0, ne_m2_0, b01_01, b01_n, lt_m2, lt_m1, le_m2, le_m1, Classical.not_not, j_CP_turn_0, b_CP_turn_0, j_CP_turn_21, b_CP_turn_21, an_0, an_1, an_5, cl_1, cl_5, ne_0_1, ne_0_5, ne_1_0, ne_1_5, ne_5_0, ne_5_1, pp_0_7, pp_0_8, sh_0, sh_15, sh_30, vi_1, vi_5, iv_in hB, w3, c]
    refine c_Hist_keep hf.1 hf.2.1 hf.2.2.2.1 hf.2.2.2.2.1 ?_
    simp only [cp_kk, cp_vc, cp_vs, cp_jm, cp_ent_en, cp_en_int, cp_en_ref, cp_en_ret, cp_en_long, cp_en_nil, cp_s1_at, cp_s2_at, cp_nl_int, cp_nl_ref, cp_nl_long, cp_nl_none, cp_pop_0, cp_pop_s, reduceIte, if_true, if_false, Bool.false_eq_true, Bool.true_eq_false, false_implies, implies_true, forall_const, true_implies, true_and, and_true, and_self, true_or, or_true, false_or, or_false, Value.category, List.length_cons, List.length_nil, Option.toList_some, Option.toList_none, List.cons_append, List.nil_append, List.append_nil, Prod.mk.injEq, Nat.add_zero, Nat.zero_add, Nat.reduceAdd, Nat.reduceSub, Nat.reduceEqDiff, Nat.reduceLeDiff, Nat.reduceLT, Nat.le_refl, beq_self_eq_true, Nat.reduceBEq, ne_eq, not_true_eq_false, not_false_eq_true, Int32.reduceAdd, Int32.reduceSub, Int32.reduceMul, Int32.reduceLE, Int32.reduceLT, Int32.reduceToNatClampNeg, b01_0, b01_1, ne_2_0, ne_3_0, ne_4_0, ne_5_0, ne_6_0, ne_m1_0, ne_m2_0, b01_01, b01_n, lt_m2, lt_m1, le_m2, le_m1, Classical.not_not, Bool.or_false, Bool.false_or, Bool.true_or, Bool.or_true, j_CP_turn_0, b_CP_turn_0, j_CP_turn_21, b_CP_turn_21, an_0, an_1, an_5, cl_1, cl_5, ne_0_1, ne_0_5, ne_1_0, ne_1_5, ne_5_0, ne_5_1, pp_0_7, pp_0_8, sh_0, sh_15, sh_30, vi_1, vi_5, k15, iv_in hB, iv_m hB, sh1 (show b < 8 by omega), xor_nI (iv_64 hB) (pow_lt64 (show b < 6 by omega))]
    refine c_Bath_settle (m := m) (m' := m) (cT_o (iv_cT hB) kt) (by rw [k15]; exact iv_m hB) (mOK_lt (iv_mOK hB)) (mOK_lt (iv_mOK hB)) (bOK_o (iv_bOK hB) kt (fun a j h1 h2 => kpM_o (by omega))) ?_
    intro M hM m1 m2 m3 mB
    simp only [cp_kk, cp_vc, cp_vs, cp_jm, cp_ent_en, cp_en_int, cp_en_ref, cp_en_ret, cp_en_long, cp_en_nil, cp_s1_at, cp_s2_at, cp_nl_int, cp_nl_ref, cp_nl_long, cp_nl_none, cp_pop_0, cp_pop_s, reduceIte, if_true, if_false, Bool.false_eq_true, Bool.true_eq_false, false_implies, implies_true, forall_const, true_implies, true_and, and_true, and_self, true_or, or_true, false_or, or_false, Value.category, List.length_cons, List.length_nil, Option.toList_some, Option.toList_none, List.cons_append, List.nil_append, List.append_nil, Prod.mk.injEq, Nat.add_zero, Nat.zero_add, Nat.reduceAdd, Nat.reduceSub, Nat.reduceEqDiff, Nat.reduceLeDiff, Nat.reduceLT, Nat.le_refl, beq_self_eq_true, Nat.reduceBEq, ne_eq, not_true_eq_false, not_false_eq_true, Int32.reduceAdd, Int32.reduceSub, Int32.reduceMul, Int32.reduceLE, Int32.reduceLT, Int32.reduceToNatClampNeg, b01_0, b01_1, ne_2_0, ne_3_0, ne_4_0, ne_5_0, ne_6_0, ne_m1_0, ne_m2_0, b01_01, b01_n, lt_m2, lt_m1, le_m2, le_m1, Classical.not_not, Bool.or_false, Bool.false_or, Bool.true_or, Bool.or_true, j_CP_turn_0, b_CP_turn_0, j_CP_turn_21, b_CP_turn_21, an_0, an_1, an_5, cl_1, cl_5, ne_0_1, ne_0_5, ne_1_0, ne_1_5, ne_5_0, ne_5_1, pp_0_7, pp_0_8, sh_0, sh_15, sh_30, vi_1, vi_5, m1]
    refine c_Bath_warmthOf (xor_lt64 (iv_64 hB) (pow_lt64 (show b < 6 by omega))) ?_
    simp only [cp_kk, cp_vc, cp_vs, cp_jm, cp_ent_en, cp_en_int, cp_en_ref, cp_en_ret, cp_en_long, cp_en_nil, cp_s1_at, cp_s2_at, cp_nl_int, cp_nl_ref, cp_nl_long, cp_nl_none, cp_pop_0, cp_pop_s, reduceIte, if_true, if_false, Bool.false_eq_true, Bool.true_eq_false, false_implies, implies_true, forall_const, true_implies, true_and, and_true, and_self, true_or, or_true, false_or, or_false, Value.category, List.length_cons, List.length_nil, Option.toList_some, Option.toList_none, List.cons_append, List.nil_append, List.append_nil, Prod.mk.injEq, Nat.add_zero, Nat.zero_add, Nat.reduceAdd, Nat.reduceSub, Nat.reduceEqDiff, Nat.reduceLeDiff, Nat.reduceLT, Nat.le_refl, beq_self_eq_true, Nat.reduceBEq, ne_eq, not_true_eq_false, not_false_eq_true, Int32.reduceAdd, Int32.reduceSub, Int32.reduceMul, Int32.reduceLE, Int32.reduceLT, Int32.reduceToNatClampNeg, b01_0, b01_1, ne_2_0, ne_3_0, ne_4_0, ne_5_0, ne_6_0, ne_m1_0, ne_m2_0, b01_01, b01_n, lt_m2, lt_m1, le_m2, le_m1, Classical.not_not, Bool.or_false, Bool.false_or, Bool.true_or, Bool.or_true, j_CP_turn_0, b_CP_turn_0, j_CP_turn_21, b_CP_turn_21, an_0, an_1, an_5, cl_1, cl_5, ne_0_1, ne_0_5, ne_1_0, ne_1_5, ne_5_0, ne_5_1, pp_0_7, pp_0_8, sh_0, sh_15, sh_30, vi_1, vi_5]
    exact h1 c M hM m1 m2 m3 mB
  · refine cp_run 60 (fun _ => false) ck_CP_turn ?_
    simp only [cp_vc, cp_vs, cp_jm, cp_ent_en, cp_en_int, cp_en_ref, cp_en_ret, cp_en_long, cp_en_nil, cp_s1_at, cp_s2_at, cp_nl_int, cp_nl_ref, cp_nl_long, cp_nl_none, cp_pop_0, cp_pop_s, reduceIte, if_true, if_false, Bool.false_eq_true, Bool.true_eq_false, false_implies, implies_true, forall_const, true_implies, true_and, and_true, and_self, true_or, or_true, false_or, or_false, Value.category, List.length_cons, List.length_nil, Option.toList_some, Option.toList_none, List.cons_append, List.nil_append, List.append_nil, Prod.mk.injEq, Nat.add_zero, Nat.zero_add, Nat.reduceAdd, Nat.reduceSub, Nat.reduceEqDiff, Nat.reduceLeDiff, Nat.reduceLT, Nat.le_refl, beq_self_eq_true, Nat.reduceBEq, ne_eq, not_true_eq_false, not_false_eq_true, Int32.reduceAdd, Int32.reduceSub, Int32.reduceMul, Int32.reduceLE, Int32.reduceLT, Int32.reduceToNatClampNeg, b01_0, b01_1, ne_2_0, ne_3_0, ne_4_0, ne_5_0, ne_6_0, ne_m1_0, ne_m2_0, b01_01, b01_n, lt_m2, lt_m1, le_m2, le_m1, Classical.not_not, j_CP_turn_0, b_CP_turn_0, j_CP_turn_21, b_CP_turn_21, an_0, an_1, an_5, cl_1, cl_5, ne_0_1, ne_0_5, ne_1_0, ne_1_5, ne_5_0, ne_5_1, pp_0_7, pp_0_8, sh_0, sh_15, sh_30, vi_1, vi_5, iv_in hB, w3, c]
    refine c_CP_refuse ?_
    simp only [cp_kk, cp_vc, cp_vs, cp_jm, cp_ent_en, cp_en_int, cp_en_ref, cp_en_ret, cp_en_long, cp_en_nil, cp_s1_at, cp_s2_at, cp_nl_int, cp_nl_ref, cp_nl_long, cp_nl_none, cp_pop_0, cp_pop_s, reduceIte, if_true, if_false, Bool.false_eq_true, Bool.true_eq_false, false_implies, implies_true, forall_const, true_implies, true_and, and_true, and_self, true_or, or_true, false_or, or_false, Value.category, List.length_cons, List.length_nil, Option.toList_some, Option.toList_none, List.cons_append, List.nil_append, List.append_nil, Prod.mk.injEq, Nat.add_zero, Nat.zero_add, Nat.reduceAdd, Nat.reduceSub, Nat.reduceEqDiff, Nat.reduceLeDiff, Nat.reduceLT, Nat.le_refl, beq_self_eq_true, Nat.reduceBEq, ne_eq, not_true_eq_false, not_false_eq_true, Int32.reduceAdd, Int32.reduceSub, Int32.reduceMul, Int32.reduceLE, Int32.reduceLT, Int32.reduceToNatClampNeg, b01_0, b01_1, ne_2_0, ne_3_0, ne_4_0, ne_5_0, ne_6_0, ne_m1_0, ne_m2_0, b01_01, b01_n, lt_m2, lt_m1, le_m2, le_m1, Classical.not_not, Bool.or_false, Bool.false_or, Bool.true_or, Bool.or_true, j_CP_turn_0, b_CP_turn_0, j_CP_turn_21, b_CP_turn_21, an_0, an_1, an_5, cl_1, cl_5, ne_0_1, ne_0_5, ne_1_0, ne_1_5, ne_5_0, ne_5_1, pp_0_7, pp_0_8, sh_0, sh_15, sh_30, vi_1, vi_5]
    exact h5 c
end Act1
