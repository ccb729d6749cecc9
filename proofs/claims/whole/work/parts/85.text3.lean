section Text3
variable {T : Nat → Nat} {n : Nat} {s : pS}
theorem tw2_pair {F : Nat → Int32} {l q b c v : Nat} (hw : ∀ a, a < 6 → ∃ z, z < 64 ∧ F (58 + a) = nI z) (h : tw2 F l) (hl : l ≤ 6) (hq : q = 0 ∨ q = 1 ∨ q = 2) (h7 : q = 0 → (F 7).toNatClampNeg < 4) (hb : b < l) (hc : c < l) (hbc : b ≠ c) (hv : v ≤ 9) : tw2 (p_pair q F b c v) l := by
  intro x y hx hy
  obtain ⟨h1, h2, h3, h4, h5, h6⟩ := h x y hx hy
  have hb6 : b < 6 := by omega
  have hc6 : c < 6 := by omega
  rw [tv_pair hq h7 hb6 hc6 hx hy, tv_pair hq h7 hb6 hc6 hy hx, bp_pair hw hq hb6 hc6 hbc hx y, bp_pair hw hq hb6 hc6 hbc hy x]
  refine ⟨?_, ?_, ?_, ?_, ?_, ?_⟩
  · by_cases q0 : q = 0
    · rw [if_pos q0, if_pos q0]
      exact h1
    · rw [if_neg q0, if_neg q0]
      by_cases e : (x = b ∧ y = c) ∨ (x = c ∧ y = b)
      · rw [if_pos e, if_pos (show (y = b ∧ x = c) ∨ (y = c ∧ x = b) by omega)]
      · rw [if_neg e, if_neg (show ¬ ((y = b ∧ x = c) ∨ (y = c ∧ x = b)) by omega)]
        exact h1
  · intro e
    rw [h2 e, Bool.false_or, Bool.or_eq_false_iff, decide_eq_false_iff_not, decide_eq_false_iff_not]
    omega
  · rw [h3]
    congr 1
    rw [Bool.eq_iff_iff, Bool.or_eq_true, Bool.or_eq_true, decide_eq_true_eq, decide_eq_true_eq, decide_eq_true_eq, decide_eq_true_eq]
    omega
  · intro e
    rw [Bool.or_eq_true, Bool.or_eq_true, decide_eq_true_eq, decide_eq_true_eq] at e
    rcases e with e | e | e
    · exact h4 e
    · omega
    · omega
  · intro e
    rw [Bool.or_eq_false_iff, Bool.or_eq_false_iff, decide_eq_false_iff_not, decide_eq_false_iff_not] at e
    obtain ⟨e1, e2, e3⟩ := e
    have := h5 e1
    rw [if_neg (show ¬ ((x = b ∧ y = c) ∨ (x = c ∧ y = b)) by omega), this]
    simp
  · by_cases q0 : q = 0
    · rw [if_pos q0]
      exact h6
    · rw [if_neg q0]
      by_cases e : (x = b ∧ y = c) ∨ (x = c ∧ y = b)
      · rw [if_pos e]
        by_cases q1 : q = 1
        · rw [if_pos q1]
          exact ⟨v, hv, Or.inl rfl⟩
        · rw [if_neg q1]
          exact ⟨v, hv, Or.inr rfl⟩
      · rw [if_neg e]
        exact h6
theorem pq_n {F : Nat → Int32} {q b c v j : Nat} (hq : q = 1 ∨ q = 2) (hb : b < 6) (hc : c < 6) (hj : j = 7 ∨ (64 ≤ j ∧ j < 76)) : p_pair q F b c v j = F j := by
  rcases hq with rfl | rfl
  · rw [p_pair_1]
    simp (disch := omega) only [pk_un]
  · rw [p_pair_2]
    simp (disch := omega) only [pk_un]
theorem pq_0 {F : Nat → Int32} {b c v w j : Nat} (hw : F 7 = nI w) (hw4 : w < 4) (hb : b < 6) (hc : c < 6) (hj : 64 ≤ j) (hj2 : j < 64 + 3 * w) : p_pair 0 F b c v j = F j := by
  have e : (F 7).toNatClampNeg = w := by rw [hw]; exact ncl (by omega)
  rw [p_pair_0, e]
  simp (disch := omega) only [pk_un]
theorem pq_w {F : Nat → Int32} {b c v w : Nat} (hw : F 7 = nI w) (hw4 : w < 4) (hb : b < 6) (hc : c < 6) : p_pair 0 F b c v (64 + 3 * w) = nI b ∧ p_pair 0 F b c v (65 + 3 * w) = nI c ∧ p_pair 0 F b c v (66 + 3 * w) = nI v ∧ p_pair 0 F b c v 7 = nI (w + 1) := by
  have e : (F 7).toNatClampNeg = w := by rw [hw]; exact ncl (by omega)
  rw [p_pair_0, e]
  refine ⟨?_, ?_, ?_, ?_⟩
  · simp (disch := omega) only [pk_un, pk_us]
  · simp (disch := omega) only [pk_un, pk_us]
  · simp (disch := omega) only [pk_un, pk_us]
  · rw [pk_us, hw, nI_1]
theorem tw3_pair {F : Nat → Int32} {l q b c v w : Nat} (hw : ∀ a, a < 6 → ∃ z, z < 64 ∧ F (58 + a) = nI z) (h2 : tw2 F l) (h : tw3 F l) (hl : l ≤ 6) (hq : q = 0 ∨ q = 1 ∨ q = 2) (hF : F 7 = nI w) (hw4 : w ≤ 4) (h7 : q = 0 → (F 7).toNatClampNeg < 4) (hb : b < l) (hc : c < l) (hbc : b ≠ c) (hno : bp F b c = false) (hv1 : 1 ≤ v) (hv : v ≤ 9) : tw3 (p_pair q F b c v) l := by
  have e7 : (F 7).toNatClampNeg = w := by rw [hF]; exact ncl (by omega)
  have hb6 : b < 6 := by omega
  have hc6 : c < 6 := by omega
  have hno' : bp F c b = false := by rw [← (h2 b c hb6 hc6).2.2.1]; exact hno
  obtain ⟨h1, h3⟩ := h
  rw [e7] at h1 h3
  have old : ∀ k, k < w → (∀ j, 64 ≤ j → j < 64 + 3 * w → p_pair q F b c v j = F j) → tua (p_pair q F b c v) k = tua F k ∧ tub (p_pair q F b c v) k = tub F k ∧ tw3a (p_pair q F b c v) l k := by
    intro k hk e
    obtain ⟨a1, a2, a3, a4, a5, a6, a7, a8⟩ := h1 k hk
    have ea : tua (p_pair q F b c v) k = tua F k := by unfold tua; rw [e _ (by omega) (by omega)]
    have eb : tub (p_pair q F b c v) k = tub F k := by unfold tub; rw [e _ (by omega) (by omega)]
    refine ⟨ea, eb, ?_⟩
    unfold tw3a
    rw [ea, eb, e (64 + 3 * k) (by omega) (by omega), e (65 + 3 * k) (by omega) (by omega), e (66 + 3 * k) (by omega) (by omega), bp_pair hw hq hb6 hc6 hbc (by omega), tv_pair hq h7 hb6 hc6 (by omega) (by omega)]
    refine ⟨a1, a2, a3, a4, a5, by rw [a6, Bool.true_or], ?_, a8⟩
    rw [a7, if_neg (c := (tua F k = b ∧ tub F k = c) ∨ (tua F k = c ∧ tub F k = b))]
    · simp
    · rintro (⟨z1, z2⟩ | ⟨z1, z2⟩)
      · rw [z1, z2, hno] at a6
        cases a6
      · rw [z1, z2, hno'] at a6
        cases a6
  by_cases q0 : q = 0
  · subst q0
    have hw3 : w < 4 := by have := h7 rfl; omega
    obtain ⟨p1, p2, p3, p4⟩ := pq_w (v := v) hF hw3 hb6 hc6
    have o := fun k hk => old k hk (fun j j1 j2 => pq_0 hF hw3 hb6 hc6 j1 j2)
    have ec : (p_pair 0 F b c v 7).toNatClampNeg = w + 1 := by rw [p4]; exact ncl (by omega)
    have ua : tua (p_pair 0 F b c v) w = b := by unfold tua; rw [p1]; exact ncl (by omega)
    have ub : tub (p_pair 0 F b c v) w = c := by unfold tub; rw [p2]; exact ncl (by omega)
    unfold tw3
    rw [ec]
    refine ⟨fun k hk => ?_, fun k k' hk hk' => ?_⟩
    · by_cases e : k = w
      · subst e
        unfold tw3a
        rw [ua, ub, p1, p2, p3, bp_pair hw hq hb6 hc6 hbc hb6, tv_pair hq h7 hb6 hc6 hb6 hc6]
        refine ⟨rfl, rfl, hb, hc, hbc, by simp, ?_, v, hv1, hv, rfl⟩
        rw [if_pos rfl]
        exact (h2 b c hb6 hc6).2.2.2.2.1 hno
      · exact (o k (by omega)).2.2
    · rw [(o k (by omega)).1, (o k (by omega)).2.1]
      by_cases e : k' = w
      · rw [e, ua, ub]
        obtain ⟨a1, a2, a3, a4, a5, a6, a7, a8⟩ := h1 k (by omega)
        refine ⟨?_, ?_⟩
        · rintro ⟨z1, z2⟩
          rw [z1, z2, hno] at a6
          cases a6
        · rintro ⟨z1, z2⟩
          rw [z1, z2, hno'] at a6
          cases a6
      · rw [(o k' (by omega)).1, (o k' (by omega)).2.1]
        exact h3 k k' hk (by omega)
  · have hq' : q = 1 ∨ q = 2 := by omega
    have o := fun k hk => old k hk (fun j j1 j2 => pq_n hq' hb6 hc6 (by omega))
    unfold tw3
    rw [pq_n hq' hb6 hc6 (Or.inl rfl), e7]
    refine ⟨fun k hk => (o k hk).2.2, fun k k' hk hk' => ?_⟩
    rw [(o k (by omega)).1, (o k (by omega)).2.1, (o k' (by omega)).1, (o k' (by omega)).2.1]
    exact h3 k k' hk hk'
theorem neg_nI {v : Nat} (h1 : 1 ≤ v) (h9 : v ≤ 9) : -nI v < 0 := by
  have key : ∀ v : Nat, v < 10 → 1 ≤ v → -nI v < 0 := by decide +kernel
  exact key v (by omega) h1
theorem tw5_pair {F : Nat → Int32} {l q b c v : Nat} (h2 : tw2 F l) (h : tw5 F) (hl : l ≤ 6) (hq : q = 0 ∨ q = 1 ∨ q = 2) (h7 : q = 0 → (F 7).toNatClampNeg < 4) (hb : b < l) (hc : c < l) (hbc : b ≠ c) (hno : bp F b c = false) (hv1 : 1 ≤ v) (hv : v ≤ 9) : tw5 (p_pair q F b c v) := by
  have hb6 : b < 6 := by omega
  have hc6 : c < 6 := by omega
  obtain ⟨f, f1, f2⟩ := h
  have z1 : F (22 + 6 * b + c) = 0 := (h2 b c hb6 hc6).2.2.2.2.1 hno
  have z2 : F (22 + 6 * c + b) = 0 := by rw [← (h2 b c hb6 hc6).1]; exact z1
  have val : ∀ j, j < 36 → p_pair q F b c v (22 + j) = if q = 0 then F (22 + j) else if j = 6 * b + c ∨ j = 6 * c + b then (if q = 1 then nI v else -nI v) else F (22 + j) := by
    intro j hj
    have e : 22 + j = 22 + 6 * (j / 6) + j % 6 := by omega
    have ec : ((j / 6 = b ∧ j % 6 = c) ∨ (j / 6 = c ∧ j % 6 = b)) = (j = 6 * b + c ∨ j = 6 * c + b) := by
      apply propext
      omega
    rw [e, tv_pair hq h7 hb6 hc6 (by omega) (by omega)]
    simp only [ec]
  have hp0 : ¬ (0 : Int32) < 0 := by decide +kernel
  rcases hq with rfl | rfl | rfl
  · refine ⟨f, ?_, ?_⟩
    · have := h7 rfl
      rw [p_pair_0]
      simp (disch := omega) only [pk_un]
      exact f1
    · rw [← f2]
      refine cnt_cong 36 0 0 (fun j _ hj => ?_)
      rw [val j (by omega), if_pos rfl]
  · refine ⟨f, ?_, ?_⟩
    · rw [p_pair_1]
      simp (disch := omega) only [pk_un]
      exact f1
    · rw [← f2]
      refine cnt_cong 36 0 0 (fun j _ hj => ?_)
      rw [val j (by omega), if_neg (by omega), if_pos rfl]
      by_cases e : j = 6 * b + c ∨ j = 6 * c + b
      · rw [if_pos e]
        have e0 : F (22 + j) = 0 := by
          rcases e with e | e
          · rw [e, show 22 + (6 * b + c) = 22 + 6 * b + c by omega]; exact z1
          · rw [e, show 22 + (6 * c + b) = 22 + 6 * c + b by omega]; exact z2
        rw [e0, decide_eq_false (nI_pos (by omega)), decide_eq_false hp0]
      · rw [if_neg e]
  · refine ⟨f + 1, ?_, ?_⟩
    · rw [p_pair_2, pk_us, f1, nI_1]
    · have s1 := cnt_one (p := fun j => decide (F (22 + j) < 0)) (q := fun j => if j = 6 * b + c then true else decide (F (22 + j) < 0)) (i := 6 * b + c) (by
        show decide (F (22 + (6 * b + c)) < 0) = false
        rw [show 22 + (6 * b + c) = 22 + 6 * b + c by omega, z1]; exact decide_eq_false hp0) (by simp) (fun j hj => by simp [hj]) 36 0 0 (by omega) (by omega)
      have s2 := cnt_one (p := fun j => if j = 6 * b + c then true else decide (F (22 + j) < 0)) (q := fun j => if j = 6 * c + b then true else if j = 6 * b + c then true else decide (F (22 + j) < 0)) (i := 6 * c + b) (by
        show (if 6 * c + b = 6 * b + c then true else decide (F (22 + (6 * c + b)) < 0)) = false
        rw [if_neg (by omega), show 22 + (6 * c + b) = 22 + 6 * c + b by omega, z2]; exact decide_eq_false hp0) (by simp) (fun j hj => by simp [hj]) 36 0 0 (by omega) (by omega)
      have s3 : sp_cnt (fun j => decide (p_pair 2 F b c v (22 + j) < 0)) 36 0 0 = sp_cnt (fun j => if j = 6 * c + b then true else if j = 6 * b + c then true else decide (F (22 + j) < 0)) 36 0 0 := by
        refine cnt_cong 36 0 0 (fun j _ hj => ?_)
        rw [val j (by omega), if_neg (by omega), if_neg (show ¬ (2 : Nat) = 1 by omega)]
        by_cases e1 : j = 6 * c + b
        · rw [if_pos (Or.inr e1), if_pos e1, decide_eq_true (neg_nI hv1 hv)]
        · by_cases e2 : j = 6 * b + c
          · rw [if_pos (Or.inl e2), if_neg e1, if_pos e2, decide_eq_true (neg_nI hv1 hv)]
          · rw [if_neg (by omega), if_neg e1, if_neg e2]
      rw [s3, s2, s1, f2]
      omega
theorem tw_line {a : pS} (hw : wf0 s) (h : tw s.2.1 s.2.2.length) (hl : p_line T n s = .ok a) : tw a.2.1 a.2.2.length := by
  have hC := p_line_C hw hl
  obtain ⟨w1, w2, w3, w4, ⟨v7, w71, w72⟩, ⟨v8, w81, w82⟩, w6⟩ := hw
  obtain ⟨t1, t2, t3, t4, t5⟩ := h
  have e7 : (s.2.1 7).toNatClampNeg = v7 := by rw [w72]; exact ncl (by omega)
  have e8 : (s.2.1 8).toNatClampNeg = v8 := by rw [w82]; exact ncl (by omega)
  rcases hC with ⟨w, c, i, v, p, a1, a2, a3, a4, a5, rfl⟩ | ⟨k, v, q, wl, k1, k2, hl6, rfl⟩ | ⟨q, b, c, v, p, hq, h7, hb, hc, hbc, hno, v1, v2, rfl⟩ | ⟨v, z, p, v1, z1, h8, rfl⟩
  · obtain ⟨-, -, -, -, hbb⟩ := t1
    refine ⟨⟨⟨w, a1, ?_⟩, ⟨c, a2, ?_⟩, ⟨v, a4, ?_⟩, ⟨i, a3, ?_⟩, fun b hb => ?_⟩, tw2_e t2 (Nat.le_refl _) (fun j j1 j2 => ?_), tw3_e t3 (Nat.le_refl _) w1 (by omega) ?_ (fun j j1 j2 => ?_), tw4_e t4 (Nat.le_refl _) (by omega) ?_ (fun j j1 j2 => ?_), tw5_e t5 ?_ (fun j j1 j2 => ?_)⟩
    all_goals simp (disch := omega) only [pk_un, pk_us]
    have hb' : b < s.2.2.length := hb
    exact hbb b hb'
  · have hle : s.2.2.length ≤ (s.2.2 ++ [wl]).length := by simp
    have hll : (s.2.2 ++ [wl]).length = s.2.2.length + 1 := by simp
    obtain ⟨q0, q1, q3, q2, hbb⟩ := t1
    refine ⟨⟨?_, ?_, ?_, ?_, fun b hb => ?_⟩, tw2_e t2 hle (fun j j1 j2 => ?_), tw3_e t3 hle w1 (by omega) ?_ (fun j j1 j2 => ?_), tw4_e t4 hle (by omega) ?_ (fun j j1 j2 => ?_), tw5_e t5 ?_ (fun j j1 j2 => ?_)⟩
    · simp (disch := omega) only [pk_un, pk_us]; exact q0
    · simp (disch := omega) only [pk_un, pk_us]; exact q1
    · simp (disch := omega) only [pk_un, pk_us]; exact q3
    · simp (disch := omega) only [pk_un, pk_us]; exact q2
    · have hb' : b < s.2.2.length + 1 := by rw [← hll]; exact hb
      by_cases e : b = s.2.2.length
      · subst e
        exact ⟨v, k2, by show upd _ _ _ _ = _; rw [pk_un (by omega), pk_us]⟩
      · obtain ⟨x, x1, x2⟩ := hbb b (by omega)
        exact ⟨x, x1, by show upd _ _ _ _ = _; rw [pk_un (by omega), pk_un (by omega), pk_un (by omega)]; exact x2⟩
    all_goals simp (disch := omega) only [pk_un, pk_us]
  · have hb6 : b < 6 := by omega
    have hc6 : c < 6 := by omega
    exact ⟨tw1_e t1 w1 (fun j hj => pp_o hq h7 hb6 hc6 (by omega)), tw2_pair w6 t2 w1 hq h7 hb hc hbc v2, tw3_pair w6 t2 t3 w1 hq w72 w71 h7 hb hc hbc hno v1 v2, tw4_e t4 (Nat.le_refl _) (by omega) (pp_o hq h7 hb6 hc6 (by omega)) (fun j j1 j2 => pp_o hq h7 hb6 hc6 (by omega)), tw5_pair t2 t5 w1 hq h7 hb hc hbc hno v1 v2⟩
  · rw [e8] at h8
    rw [e8, w82, nI_1]
    refine ⟨tw1_e t1 w1 (fun j hj => ?_), tw2_e t2 (Nat.le_refl _) (fun j j1 j2 => ?_), tw3_e t3 (Nat.le_refl _) w1 (by omega) ?_ (fun j j1 j2 => ?_), fun k hk => ?_, tw5_e t5 ?_ (fun j j1 j2 => ?_)⟩
    · simp (disch := omega) only [pk_un, pk_us]
    · simp (disch := omega) only [pk_un, pk_us]
    · simp (disch := omega) only [pk_un, pk_us]
    · simp (disch := omega) only [pk_un, pk_us]
    · simp only [pk_us] at hk
      rw [ncl (by omega)] at hk
      by_cases e : k = v8
      · subst e
        exact ⟨z, z1, by simp (disch := omega) only [pk_un, pk_us]⟩
      · obtain ⟨y, y1, y2⟩ := t4 k (by omega)
        exact ⟨y, y1, by simp (disch := omega) only [pk_un, pk_us]; exact y2⟩
    · simp (disch := omega) only [pk_un, pk_us]
    · simp (disch := omega) only [pk_un, pk_us]
theorem tw_0 : tw (fun _ => 0) 0 := by
  refine ⟨⟨⟨0, by omega, rfl⟩, ⟨0, by omega, rfl⟩, ⟨0, by omega, rfl⟩, ⟨0, by omega, rfl⟩, fun b hb => by omega⟩, fun a b ha hb => ?_, ⟨fun k hk => ?_, fun k k' h1 h2 => ?_⟩, fun k hk => ?_, ⟨0, rfl, by decide +kernel⟩⟩
  · have e : ∀ x y, bp (fun _ => 0) x y = false := fun x y => by
      show ((0 : Int32).toNatClampNeg).testBit y = false
      rw [show (0 : Int32).toNatClampNeg = 0 from rfl, Nat.zero_testBit]
    rw [e, e]
    refine ⟨rfl, fun _ => rfl, rfl, fun q => Bool.noConfusion q, fun _ => rfl, 0, by omega, Or.inl rfl⟩
  · exact absurd hk (Nat.not_lt_zero _)
  · exact absurd h2 (Nat.not_lt_zero _)
  · exact absurd hk (Nat.not_lt_zero _)
theorem p_text_tw (h : p_text T n = .ok s) : tw s.2.1 s.2.2.length := p_text_ind (Φ := fun s => tw s.2.1 s.2.2.length) (fun _ _ h => h) (fun _ _ hw h hl => tw_line hw h hl) tw_0 h
end Text3
