section Read2
variable {g : cp_G} {d : Nat} {sh : cp_H} {I M : cp_I} {J : cp_J} {P : cp_P} {Q : cp_QT} {t u r x : Nat} {T : Nat → Nat} {n p : Nat} {s : pS}
/-! the class's reader: lines -/
def cRK (I M : cp_I) (r : Nat) : Prop := ∀ a j, ¬ (a = 12 ∧ 2 ≤ j) → ¬ a = 13 → ¬ (r ≤ a ∧ a ≤ r + 9) → M a j = I a j
def cFr (F : Nat → Int32) (M : cp_I) (r : Nat) : Prop := (M r 0 = F 0 ∧ M r 1 = F 1 ∧ M r 2 = F 2 ∧ M r 3 = F 3 ∧ M r 4 = F 4 ∧ M r 6 = F 7 ∧ M r 7 = F 8)
  ∧ (∀ b, b < (F 4).toNatClampNeg → M (r + 2) b = F (10 + 2 * b) ∧ M (r + 3) b = F (11 + 2 * b))
  ∧ (∀ a b, a < 6 → b < 6 → M (r + 4) (6 * a + b) = F (22 + 6 * a + b))
  ∧ (∀ k, k < (F 7).toNatClampNeg → M (r + 5) k = F (64 + 3 * k) ∧ M (r + 6) k = F (65 + 3 * k) ∧ M (r + 7) k = F (66 + 3 * k))
  ∧ (∀ k, k < (F 8).toNatClampNeg → M (r + 8) k = F (76 + 2 * k) ∧ M (r + 9) k = F (77 + 2 * k))
  ∧ ∃ m, m < 2 ^ 30 ∧ M r 5 = nI m ∧ ∀ a b, a < 6 → b < 6 → a ≠ b → m.testBit (pbk a b) = ((F (58 + a)).toNatClampNeg).testBit b
def cO (T : Nat → Nat) (n : Nat) (I : cp_I) (r : Nat) (hd : Int32) (M : cp_I) (J : cp_J) (s : pS) : Prop := cRK I M r ∧ M 12 2 = hd ∧ M 12 3 = 0 ∧ cTk T n s.1 M ∧ cFr s.2.1 M r ∧ cNm s.2.2 J r ∧ s.1 ≤ n
def cE (I : cp_I) (r : Nat) (M : cp_I) (e : pE) : Prop := cRK I M r ∧ M 12 3 = e.1 ∧ M 12 6 = nI e.2
/-- what a line leaves: a truth value, memories -/
def cP (T : Nat → Nat) (n : Nat) (I : cp_I) (r : Nat) (hd : Int32) (b : Int32) (M : cp_I) (J : cp_J) : Except pE pS → Prop
  | .error e => b = 0 ∧ cE I r M e
  | .ok s => b = 1 ∧ cO T n I r hd M J s
theorem r_13 (hr : tk r) {k : Nat} (hk : k ≤ 9) : r + k ≠ 12 ∧ r + k ≠ 13 := by rcases hr with rfl | rfl <;> omega
theorem cRK_k {M' : cp_I} (h : cRK I M r) (h' : kR M M') : cRK I M' r := by
  intro a j h1 h2 h3
  rw [h' a j h2 (by omega)]
  exact h a j h1 h2 h3
theorem kR_r {M' : cp_I} (hr : tk r) (h' : kR M M') {k : Nat} (hk : k ≤ 9) (j : Nat) : M' (r + k) j = M (r + k) j := by
  have := r_13 hr hk
  exact h' _ j this.2 (fun q => this.1 q.1)
theorem cFr_e {F : Nat → Int32} {M' : cp_I} (h : cFr F M r) (e : ∀ k j, k ≤ 9 → M' (r + k) j = M (r + k) j) : cFr F M' r := by
  obtain ⟨⟨a0, a1, a2, a3, a4, a6, a7⟩, b, c, d, f, m, m1, m2, m3⟩ := h
  have e0 : ∀ j, M' r j = M r j := fun j => by have := e 0 j (by omega); rwa [Nat.add_zero] at this
  refine ⟨⟨by rw [e0]; exact a0, by rw [e0]; exact a1, by rw [e0]; exact a2, by rw [e0]; exact a3, by rw [e0]; exact a4, by rw [e0]; exact a6, by rw [e0]; exact a7⟩, fun i hi => by rw [e 2 i (by omega), e 3 i (by omega)]; exact b i hi, fun i j hi hj => by rw [e 4 _ (by omega)]; exact c i j hi hj, fun k hk => by rw [e 5 k (by omega), e 6 k (by omega), e 7 k (by omega)]; exact d k hk, fun k hk => by rw [e 8 k (by omega), e 9 k (by omega)]; exact f k hk, m, m1, by rw [e0]; exact m2, m3⟩
theorem cO_k {hd : Int32} {M' : cp_I} {q : Nat} (hr : tk r) (h : cO T n I r hd M J s) (h' : kR M M') (h3 : M' 12 3 = M 12 3) (hk : cTk T n q M') (hq : q ≤ n) : cO T n I r hd M' J (q, s.2) := by
  obtain ⟨o1, o2, o3, o4, o5, o6, o7⟩ := h
  exact ⟨cRK_k o1 h', by rw [h' 12 2 (by omega) (by omega)]; exact o2, by rw [h3]; exact o3, hk, cFr_e o5 (fun k j hk => kR_r hr h' hk j), o6, hq⟩
theorem cE_k {M' : cp_I} {c : Int32} {a : Nat} (h : cRK I M r) (h' : kR M M') (h3 : M' 12 3 = c) (h6 : M' 12 6 = nI a) : cE I r M' (c, a) := ⟨cRK_k h h', h3, h6⟩
theorem cRK_T (h : cRK I M r) (hr : tk r) (hT : cTx T n I) : cTx T n M := ⟨hT.1, fun k hk => by rw [h 1 k (by omega) (by omega) (by rcases hr with rfl | rfl <;> omega)]; exact hT.2 k hk⟩
theorem cRK_r (hr : tk r) (h : cRK I M r) {k : Nat} (hk : k ≤ 9) (j : Nat) (v : Int32) : cRK I (cp_u M (r + k) j v) r := by
  intro a i h1 h2 h3
  rw [cp_u_at, if_neg (by omega)]
  exact h a i h1 h2 h3
theorem u_13 (hr : tk r) {k : Nat} (hk : k ≤ 9) {j : Nat} {v : Int32} {a : Nat} (ha : a = 12 ∨ a = 13) (i : Nat) : cp_u M (r + k) j v a i = M a i := by
  have := r_13 hr hk
  rw [cp_u_at, if_neg (by omega)]
theorem cTk_r (hr : tk r) {k : Nat} (hk : k ≤ 9) {j : Nat} {v : Int32} {q : Nat} (h : cTk T n q M) : cTk T n q (cp_u M (r + k) j v) := by
  obtain ⟨h1, h2, h3, h4⟩ := h
  exact ⟨by rw [u_13 hr hk (by omega)]; exact h1, by rw [u_13 hr hk (by omega)]; exact h2, by rw [u_13 hr hk (by omega)]; exact h3, by rw [u_13 hr hk (by omega)]; exact h4⟩
/-- a number written into what is told -/
theorem cO_h {hd : Int32} (hr : tk r) (h : cO T n I r hd M J s) {j : Nat} (v : Int32) (hj : j < 4) : cO T n I r hd (cp_u M r j v) J (s.1, upd s.2.1 j v, s.2.2) := by
  obtain ⟨o1, o2, o3, o4, ⟨⟨a0, a1, a2, a3, a4, a6, a7⟩, b, c, dd, f, m, m1, m2, m3⟩, o6, o7⟩ := h
  have r0 : cp_u M r j v = cp_u M (r + 0) j v := by rw [Nat.add_zero]
  have w : ∀ i, cp_u M r j v r i = upd (fun i => M r i) j v i := fun i => by
    rw [cp_u_at]
    unfold upd
    by_cases e : i = j
    · simp [e]
    · simp [e]
  have o : ∀ k i, 1 ≤ k → cp_u M r j v (r + k) i = M (r + k) i := fun k i hk => by rw [cp_u_at, if_neg (by omega)]
  refine ⟨by rw [r0]; exact cRK_r hr o1 (by omega) _ _, by rw [r0, u_13 hr (by omega) (by omega)]; exact o2, by rw [r0, u_13 hr (by omega) (by omega)]; exact o3, by rw [r0]; exact cTk_r hr (by omega) o4, ?_, o6, o7⟩
  show cFr (upd s.2.1 j v) (cp_u M r j v) r
  have w2 : ∀ i, M r i = s.2.1 i → cp_u M r j v r i = upd s.2.1 j v i := by
    intro i e
    rw [w]
    unfold upd
    split
    · rfl
    · exact e
  have hj4 : upd s.2.1 j v 4 = s.2.1 4 := pk_un (by omega)
  have hj7 : upd s.2.1 j v 7 = s.2.1 7 := pk_un (by omega)
  have hj8 : upd s.2.1 j v 8 = s.2.1 8 := pk_un (by omega)
  refine ⟨⟨?_, ?_, ?_, ?_, ?_, ?_, ?_⟩, ?_, ?_, ?_, ?_, m, m1, ?_, ?_⟩
  · exact w2 0 a0
  · exact w2 1 a1
  · exact w2 2 a2
  · exact w2 3 a3
  · exact w2 4 a4
  · rw [w]; unfold upd; rw [if_neg (by omega)]; rw [if_neg (by omega)]; exact a6
  · rw [w]; unfold upd; rw [if_neg (by omega)]; rw [if_neg (by omega)]; exact a7
  · intro i hi
    simp only [hj4] at hi
    rw [o 2 i (by omega), o 3 i (by omega), pk_un (by omega), pk_un (by omega)]
    exact b i hi
  · intro x y hx hy
    rw [o 4 _ (by omega), pk_un (by omega)]
    exact c x y hx hy
  · intro k hk
    simp only [hj7] at hk
    rw [o 5 k (by omega), o 6 k (by omega), o 7 k (by omega), pk_un (by omega), pk_un (by omega), pk_un (by omega)]
    exact dd k hk
  · intro k hk
    simp only [hj8] at hk
    rw [o 8 k (by omega), o 9 k (by omega), pk_un (by omega), pk_un (by omega)]
    exact f k hk
  · rw [w]
    unfold upd
    rw [if_neg (by omega)]
    exact m2
  · intro x y hx hy hxy
    rw [pk_un (by omega)]
    exact m3 x y hx hy hxy
theorem cr_warm : (7 < 36 ∧ tx 7 = w_warm.map nI) ∧ ∀ c ∈ w_warm, c < 256 := by decide +kernel
theorem cr_chill : (8 < 36 ∧ tx 8 = w_chill.map nI) ∧ ∀ c ∈ w_chill, c < 256 := by decide +kernel
theorem cr_ice : (9 < 36 ∧ tx 9 = w_ice.map nI) ∧ ∀ c ∈ w_ice, c < 256 := by decide +kernel
theorem cr_visits : (10 < 36 ∧ tx 10 = w_visits.map nI) ∧ ∀ c ∈ w_visits, c < 256 := by decide +kernel
theorem cr_bears : (15 < 36 ∧ tx 15 = w_bears.map nI) ∧ ∀ c ∈ w_bears, c < 256 := by decide +kernel
theorem cr_by : (19 < 36 ∧ tx 19 = w_by.map nI) ∧ ∀ c ∈ w_by, c < 256 := by decide +kernel
/-- takeWord and takeWhole, one behind the other, by the reading's words -/
theorem c_Read_tw {j : Nat} {w : List Nat} {hd : Int32} (hw : (j < 36 ∧ tx j = w.map nI) ∧ ∀ c ∈ w, c < 256) (hr : tk r) (hT : cTx T n I) (h : cO T n I r hd M J s) (h1 : ∀ M', p_must T n w s = .ok (pnx T n s) → kR M M' → cO T n I r hd M' J (pnx T n s) → Q (some (.int 1)) SH M' J (PP t u r 1)) (h0 : ∀ M' e, p_must T n w s = .error e → cE I r M' e → Q (some (.int 0)) SH M' J (PP t u r 1)) : MW g false (d + 6) 0 0 m_Read_takeWord [.ref 12, .ref (1000 + j)] SH M J (PP t u r 1) Q := by
  refine c_Read_takeWord hw (cRK_T h.1 hr hT) h.2.2.2.1 h.2.2.2.2.2.2 ?_ ?_
  · intro c M' f1 f2 f3
    exact h1 M' (by simp [p_must, c]) f1 (cO_k hr h f1 f2 f3 (te_le h.2.2.2.2.2.2))
  · intro c M' f1 f2 f3
    exact h0 M' (1, ta T n s.1) (by simp [p_must, c]) (cE_k h.1 f1 f2 f3)
theorem c_Read_tn {lo hi : Nat} {hd : Int32} (hlo : lo < 1000) (hhi : hi < 1000) (hr : tk r) (hT : cTx T n I) (h : cO T n I r hd M J s) (h1 : ∀ M' v, p_num T n lo hi s = .ok (v, pnx T n s) → kR M M' → M' 12 4 = nI v → cO T n I r hd M' J (pnx T n s) → Q (some (.int 1)) SH M' J (PP t u r 1)) (h0 : ∀ M' e, p_num T n lo hi s = .error e → cE I r M' e → Q (some (.int 0)) SH M' J (PP t u r 1)) : MW g false (d + 4) 0 0 m_Read_takeWhole [.ref 12, .int (nI lo), .int (nI hi)] SH M J (PP t u r 1) Q := by
  refine c_Read_takeWhole hlo hhi (cRK_T h.1 hr hT) h.2.2.2.1 h.2.2.2.2.2.2 ?_ ?_ ?_
  · intro c c2 M' f1 f2 f3 f4
    exact h1 M' (tv T n s.1) (by simp only [p_num, c, if_true]; rw [if_pos c2]) f1 f3 (cO_k hr h f1 f2 f4 (te_le h.2.2.2.2.2.2))
  · intro c c2 M' f1 f2 f3
    exact h0 M' (4, ta T n s.1) (by simp only [p_num, c, if_true]; rw [if_neg c2]) (cE_k h.1 f1 f2 f3)
  · intro c M' f1 f2 f3
    exact h0 M' (1, ta T n s.1) (by simp only [p_num, c, if_false]) (cE_k h.1 f1 f2 f3)
end Read2
