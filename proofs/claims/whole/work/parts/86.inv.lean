section Inv1
variable {g : cp_G} {d : Nat} {I M N : cp_I} {J : cp_J} {t u r x n s m : Nat}
/-! THE INVARIANT between the class's cells and the reference's -/
def mOK (m : Nat) : Prop := ∀ i, m.testBit i = true → i < 30 ∧ i / 6 < i % 6
def pc30 (m : Nat) : Nat := sp_cnt (fun k => m.testBit k) 30 0 0
/-- a row of 39 of the reference is a moment of the class -/
def rowR (I : cp_I) (t ρ o s m : Nat) (ps : Int32) : Prop := (∀ a b, a < 6 → b < 6 → I ρ (o + (6 * a + b)) = ctm I t m a b) ∧ I ρ (o + 36) = nI s ∧ I ρ (o + 37) = nI (pc30 m) ∧ I ρ (o + 38) = ps
def rowI (I : cp_I) (t n ρ o : Nat) (ci cm ps : Int32) : Prop := ∃ s m, s < 2 ^ n ∧ mOK m ∧ ci = nI s ∧ cm = nI m ∧ rowR I t ρ o s m ps
def ivB (I : cp_I) (t n s m : Nat) : Prop := tk t ∧ n ≤ 6 ∧ I 47 4 = nI n ∧ I 44 14 = (if n = 0 then 0 else 1) ∧ tw (I 47) n ∧ cFr (I 47) I t ∧ (∃ um, um ≤ 4 ∧ I 47 7 = nI um) ∧ (∃ tm, tm ≤ 4 ∧ I 47 8 = nI tm) ∧ s < 2 ^ n ∧ mOK m ∧ I 15 1 = nI s ∧ I 15 2 = nI m ∧ rowR I t 49 0 s m (I 15 3) ∧ bOK I t n m ∧ ∀ j, I 55 j = 0
def ivH (I : cp_I) (t n : Nat) : Prop := ∃ p q qi, p < 16 ∧ q ≤ 16 ∧ qi ≤ 3 ∧ I 30 6 = nI p ∧ I 30 7 = nI q ∧ I 44 20 = nI q ∧ I 30 8 = nI qi ∧ I 44 21 = nI qi ∧ (∀ j, j < q → rowI I t n 50 (39 * j) (I 31 ((p + 16 - q + j) % 16)) (I 32 ((p + 16 - q + j) % 16)) (I 33 ((p + 16 - q + j) % 16))) ∧ ∀ j, j < qi → rowI I t n 51 (39 * j) (I 34 j) (I 35 j) (I 36 j)
def ivT (I : cp_I) : Prop := ∃ (τ : Nat) (T : Nat → Nat), τ ≤ 900 ∧ I 44 2 = nI τ ∧ I 0 1 = nI τ ∧ ∀ k, k < τ → I 45 k = nI (T k) ∧ T k < 256 ∧ I 1 k = b8 (T k)
def ivZ (I : cp_I) (n m : Nat) : Prop := n = 0 → m = 0 ∧ (∀ j, j < 10 → I 47 j = 0) ∧ I 15 3 = 0 ∧ I 30 7 = 0 ∧ I 30 8 = 0
def Iv0 (I : cp_I) (t u n s m : Nat) : Prop := ivB I t n s m ∧ ivH I t n ∧ ivT I ∧ ivZ I n m ∧ (tk u ∧ t ≠ u) ∧ I 0 3 = I 44 9
def Iv (I : cp_I) (t u : Nat) : Prop := (∃ n s m, Iv0 I t u n s m) ∧ I 0 2 = I 44 11 ∧ (I 0 2 = 4 → I 0 4 = I 44 10)
/-! what a call may write without harm -/
def wc (a : Nat) : Bool := a == 1 || (decide (2 ≤ a) && decide (a ≤ 11)) || (decide (15 ≤ a) && decide (a ≤ 36)) || a == 45 || a == 47 || (decide (49 ≤ a) && decide (a ≤ 51)) || a == 55
theorem wc_ne {a : Nat} (h : wc a = true) : a ≠ 0 ∧ a ≠ 39 ∧ a ≠ 40 ∧ a ≠ 41 ∧ a ≠ 43 ∧ a ≠ 44 ∧ a ≠ 52 ∧ a ≠ 53 ∧ a ≠ 54 ∧ a ≠ 56 ∧ a ≠ 57 ∧ a ≠ 58 ∧ a ≠ 12 ∧ a ≠ 13 ∧ a ≠ 46 ∧ a ≠ 48 := by
  simp only [wc, Bool.or_eq_true, Bool.and_eq_true, decide_eq_true_eq, beq_iff_eq] at h
  omega
def k44 (j : Nat) : Prop := j = 2 ∨ j = 9 ∨ j = 10 ∨ j = 14 ∨ j = 20 ∨ j = 21
def kp (I M : cp_I) : Prop := (∀ a, wc a = true → M a = I a) ∧ (∀ j, k44 j → M 44 j = I 44 j) ∧ ∀ j, ¬ j = 2 → M 0 j = I 0 j
theorem kp_r : kp I I := ⟨fun _ _ => rfl, fun _ _ => rfl, fun _ _ => rfl⟩
theorem kp_t (h : kp I M) (h' : kp M N) : kp I N := ⟨fun a ha => by rw [h'.1 a ha, h.1 a ha], fun j hj => by rw [h'.2.1 j hj, h.2.1 j hj], fun j hj => by rw [h'.2.2 j hj, h.2.2 j hj]⟩
theorem kp_of (h : kp I M) (e1 : ∀ a j, wc a = true → N a j = M a j) (e2 : ∀ j, k44 j → N 44 j = M 44 j) (e3 : ∀ j, ¬ j = 2 → N 0 j = M 0 j) : kp I N := kp_t h ⟨fun a ha => funext fun j => e1 a j ha, e2, e3⟩
theorem kp_u {c k : Nat} (h : kp I M) (v : Int32) (hc : wc c = false) (h44 : c = 44 → ¬ k44 k) (h0 : c = 0 → k = 2) : kp I (cp_u M c k v) := by
  refine kp_of h (fun a j ha => ?_) (fun j hj => ?_) (fun j hj => ?_)
  · rw [cp_u_at, if_neg]
    rintro ⟨rfl, -⟩
    rw [hc] at ha
    cases ha
  · rw [cp_u_at, if_neg]
    rintro ⟨z, rfl⟩
    exact h44 z.symm hj
  · rw [cp_u_at, if_neg]
    rintro ⟨z, rfl⟩
    exact hj (h0 z.symm)
theorem kp_44 {k : Nat} (h : kp I M) (v : Int32) (hk : ¬ k44 k) : kp I (cp_u M 44 k v) := kp_u h v (by decide) (fun _ => hk) (fun z => by omega)
theorem kp_11 (h : kp I M) (v : Int32) : kp I (cp_u M 44 11 v) := kp_44 h v (by unfold k44; omega)
theorem kp_gd (h : kp I M) : kp I (gd M) := kp_11 (kp_44 h 0 (by unfold k44; omega)) 0
theorem kp_00 (h : kp I M) (v : Int32) : kp I (cp_u M 44 0 v) := kp_44 h v (by unfold k44; omega)
theorem kp_rfu (h : kp I M) (v : Int32) : kp I (rfu M v) := kp_u h v (by decide) (fun z => by omega) (fun _ => rfl)
theorem kp_od {c : Nat} (h : kp I M) (O : Nat → Int32) (hc : wc c = false) (h0 : ¬ c = 0) (h44 : ¬ c = 44) : kp I (od M c O) := by
  refine kp_of h (fun a j ha => ?_) (fun j hj => ?_) (fun j hj => ?_)
  · unfold od
    rw [if_neg]
    rintro rfl
    rw [hc] at ha
    cases ha
  · unfold od
    rw [if_neg (fun z => h44 z.symm)]
  · unfold od
    rw [if_neg (fun z => h0 z.symm)]
theorem iv_fr (h : Iv0 I t u n s m) (k : kp I M) : Iv0 M t u n s m := by
  obtain ⟨k1, k2, k3⟩ := k
  have w1 := k1 1 (by decide)
  have w15 := k1 15 (by decide)
  have w26 := k1 26 (by decide)
  have w27 := k1 27 (by decide)
  have w28 := k1 28 (by decide)
  have w29 := k1 29 (by decide)
  have w30 := k1 30 (by decide)
  have w31 := k1 31 (by decide)
  have w32 := k1 32 (by decide)
  have w33 := k1 33 (by decide)
  have w34 := k1 34 (by decide)
  have w35 := k1 35 (by decide)
  have w36 := k1 36 (by decide)
  have w45 := k1 45 (by decide)
  have w47 := k1 47 (by decide)
  have w49 := k1 49 (by decide)
  have w50 := k1 50 (by decide)
  have w51 := k1 51 (by decide)
  have w55 := k1 55 (by decide)
  have f2 := k2 2 (by unfold k44; omega)
  have f9 := k2 9 (by unfold k44; omega)
  have f14 := k2 14 (by unfold k44; omega)
  have f20 := k2 20 (by unfold k44; omega)
  have f21 := k2 21 (by unfold k44; omega)
  have c1 := k3 1 (by omega)
  have c3 := k3 3 (by omega)
  have ht : tk t := h.1.1
  have t0 : M t = I t := k1 t (by rcases ht with rfl | rfl <;> decide)
  have t2 : M (t + 2) = I (t + 2) := k1 _ (by rcases ht with rfl | rfl <;> decide)
  have t3 : M (t + 3) = I (t + 3) := k1 _ (by rcases ht with rfl | rfl <;> decide)
  have t4 : M (t + 4) = I (t + 4) := k1 _ (by rcases ht with rfl | rfl <;> decide)
  have t5 : M (t + 5) = I (t + 5) := k1 _ (by rcases ht with rfl | rfl <;> decide)
  have t6 : M (t + 6) = I (t + 6) := k1 _ (by rcases ht with rfl | rfl <;> decide)
  have t7 : M (t + 7) = I (t + 7) := k1 _ (by rcases ht with rfl | rfl <;> decide)
  have t8 : M (t + 8) = I (t + 8) := k1 _ (by rcases ht with rfl | rfl <;> decide)
  have t9 : M (t + 9) = I (t + 9) := k1 _ (by rcases ht with rfl | rfl <;> decide)
  have ec : ∀ m', ctm M t m' = ctm I t m' := fun m' => by unfold ctm; rw [t4]
  have er : ∀ ρ o s' m' ps, M ρ = I ρ → (rowR M t ρ o s' m' ps = rowR I t ρ o s' m' ps) := fun ρ o s' m' ps e => by unfold rowR; rw [ec, e]
  have ei : ∀ ρ o a b c, M ρ = I ρ → (rowI M t n ρ o a b c = rowI I t n ρ o a b c) := fun ρ o a b c e => by
    unfold rowI
    simp only [er _ _ _ _ _ e]
  have en : cn M t = cn I t := by funext b; unfold cn; rw [t2, t3]
  have eb : bOK M t n m = bOK I t n m := by
    unfold bOK bUp cK cF
    rw [w26, w27, w28, w29, ec, en, t0]
  have ef : cFr (M 47) M t = cFr (I 47) I t := by
    unfold cFr
    rw [w47, t0, t2, t3, t4, t5, t6, t7, t8, t9]
  obtain ⟨hB, hH, hT, hZ, hu, h3⟩ := h
  refine ⟨?_, ?_, ?_, ?_, hu, ?_⟩
  · unfold ivB
    rw [ef, w47, f14, w15, er _ _ _ _ _ w49, eb, w55]
    exact hB
  · unfold ivH
    simp only [ei _ _ _ _ _ w50, ei _ _ _ _ _ w51, w30, w31, w32, w33, w34, w35, w36, f20, f21]
    exact hH
  · unfold ivT
    rw [f2, c1, w45, w1]
    exact hT
  · unfold ivZ
    rw [w47, w15, w30]
    exact hZ
  · rw [c3, f9]
    exact h3
/-! a call's end -/
theorem iv_end (h : Iv0 I t u n s m) (k : kp I M) {w : Int32} (e1 : M 0 2 = w) (e2 : M 44 11 = w) (hw : ¬ w = 4) : Iv M t u := ⟨⟨n, s, m, iv_fr h k⟩, by rw [e1, e2], fun q => by rw [e1] at q; exact absurd q hw⟩
theorem iv_same (h : Iv I t u) (k : kp I M) (e1 : M 0 2 = I 0 2) (e2 : M 44 11 = I 44 11) : Iv M t u := by
  obtain ⟨⟨n, s, m, h0⟩, h1, h2⟩ := h
  refine ⟨⟨n, s, m, iv_fr h0 k⟩, by rw [e1, e2, h1], fun q => ?_⟩
  rw [e1] at q
  rw [k.2.2 4 (by omega), k.2.1 10 (by unfold k44; omega)]
  exact h2 q
/-- the class answers, then the reference: alike, and the invariant holds again -/
def QB (v : Value) : cp_QT := fun w sh I2 _ P2 => w = some v ∧ sh = SH ∧ ∃ t' u' r' x', P2 = PP t' u' r' x' ∧ Iv I2 t' u'
def QA (g : cp_G) (d : Nat) (mm : cp_M) (as : List Value) : cp_QT := fun v sh I1 J1 P1 => (∃ a : Int32, v = some (.int a)) ∧ sh = SH ∧ ∀ w, v = some w → MW g false (d + 20) 0 0 mm (.ref 44 :: as) SH I1 J1 P1 (QB w)
def QL (g : cp_G) (d : Nat) (mm : cp_M) (as : List Value) : cp_QT := fun v sh I1 J1 P1 => (∃ a : Int64, v = some (.long a)) ∧ sh = SH ∧ ∀ w, v = some w → MW g false (d + 20) 0 0 mm (.ref 44 :: as) SH I1 J1 P1 (QB w)
def PR (g : cp_G) (d : Nat) (mc mm : cp_M) (as : List Value) (I : cp_I) (J : cp_J) (t u r x : Nat) : Prop := MW g false (d + 20) 0 0 mc (.ref 0 :: as) SH I J (PP t u r x) (QA g d mm as)
def PL (g : cp_G) (d : Nat) (mc mm : cp_M) (as : List Value) (I : cp_I) (J : cp_J) (t u r x : Nat) : Prop := MW g false (d + 20) 0 0 mc (.ref 0 :: as) SH I J (PP t u r x) (QL g d mm as)
theorem fin_i {a b : Int32} (e : b = a) (h : Iv M t u) : QB (.int a) (some (.int b)) SH M J (PP t u r x) := ⟨by rw [e], rfl, t, u, r, x, rfl, h⟩
theorem fin_l {a b : Int64} (e : b = a) (h : Iv M t u) : QB (.long a) (some (.long b)) SH M J (PP t u r x) := ⟨by rw [e], rfl, t, u, r, x, rfl, h⟩
theorem mid_i {mm : cp_M} {as : List Value} {P : cp_P} {a : Int32} (h : MW g false (d + 20) 0 0 mm (.ref 44 :: as) SH M J P (QB (.int a))) : QA g d mm as (some (.int a)) SH M J P := ⟨⟨a, rfl⟩, rfl, fun w e => by cases e; exact h⟩
theorem mid_l {mm : cp_M} {as : List Value} {P : cp_P} {a : Int64} (h : MW g false (d + 20) 0 0 mm (.ref 44 :: as) SH M J P (QB (.long a))) : QL g d mm as (some (.long a)) SH M J P := ⟨⟨a, rfl⟩, rfl, fun w e => by cases e; exact h⟩
theorem iv_g (h : Iv0 I t u n s m) (k : kp I M) (e : M 0 2 = 0) : Iv (gd M) t u := iv_end h (kp_gd k) (w := 0) (by simp [gd, cp_u_at, e]) (by simp [gd, cp_u_at]) (by decide +kernel)
theorem iv_gk (h : Iv0 I t u n s m) (k : kp I M) (e : M 0 2 = 0) (k' : kp (gd M) N) (e1 : N 0 2 = gd M 0 2) (e2 : N 44 11 = gd M 44 11) : Iv N t u := iv_end h (kp_t (kp_gd k) k') (w := 0) (by rw [e1]; simp [gd, cp_u_at, e]) (by rw [e2]; simp [gd, cp_u_at]) (by decide +kernel)
theorem iv_gn {w : Int32} (h : Iv0 I t u n s m) (k : kp I M) (e : M 0 2 = w) (hw : ¬ w = 4) : Iv (cp_u (gd M) 44 11 w) t u := iv_end h (kp_11 (kp_gd k) w) (w := w) (by simp [gd, cp_u_at, e]) (by simp [cp_u_at]) hw
theorem iv_rf (h : Iv0 I t u n s m) (w : Int32) : Iv0 (rfu I w) t u n s m := iv_fr h (kp_rfu kp_r w)
theorem iv_rg (h : Iv0 I t u n s m) : Iv (gd (rfu I 0)) t u := iv_g h (kp_rfu kp_r 0) rfu_2
theorem iv_rn {w : Int32} (h : Iv0 I t u n s m) (hw : ¬ w = 4) : Iv (cp_u (gd (rfu I w)) 44 11 w) t u := iv_gn h (kp_rfu kp_r w) rfu_2 hw
theorem n14 : ¬ (1 : Int32) = 4 := by decide +kernel
theorem n24 : ¬ (2 : Int32) = 4 := by decide +kernel
theorem n34 : ¬ (3 : Int32) = 4 := by decide +kernel
theorem n54 : ¬ (5 : Int32) = 4 := by decide +kernel
theorem n64 : ¬ (6 : Int32) = 4 := by decide +kernel
end Inv1
