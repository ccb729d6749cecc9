section Meet
variable {g : cp_G} {d : Nat} {I M N : cp_I} {J : cp_J} {Q : cp_QT} {t u r x n s m set : Nat} {F kk : Nat → Nat}
/-! the fewest introductions -/
theorem t_add {a b : Int32} (h1 : -2147483648 ≤ a.toInt + b.toInt) (h2 : a.toInt + b.toInt < 2147483648) : (a + b).toInt = a.toInt + b.toInt := by
  rw [Int32.toInt_add]
  have e : (2 : Nat) ^ 32 = 4294967296 := by decide
  rw [e, Int.bmod_def]
  omega
theorem Sg_bd {f : Nat → Int32} {B : Int} (hB : 0 ≤ B) : ∀ k, k ≤ 6 → 6 * B < 1000000 → (∀ i, i < k → -B ≤ (f i).toInt ∧ (f i).toInt ≤ B) → -(k * B) ≤ (Sg f k).toInt ∧ (Sg f k).toInt ≤ k * B
  | 0, _, _, _ => by
    show -((0 : Nat) * B) ≤ (0 : Int32).toInt ∧ (0 : Int32).toInt ≤ (0 : Nat) * B
    rw [show (0 : Int32).toInt = 0 from rfl]
    simp
  | k + 1, hk, hb, h => by
    obtain ⟨i1, i2⟩ := Sg_bd hB k (by omega) hb (fun i hi => h i (by omega))
    obtain ⟨j1, j2⟩ := h k (by omega)
    have hkB : (k : Int) * B ≤ 6 * B := Int.mul_le_mul_of_nonneg_right (by omega) hB
    show -((k + 1 : Nat) * B) ≤ (Sg f k + f k).toInt ∧ (Sg f k + f k).toInt ≤ (k + 1 : Nat) * B
    rw [t_add (by omega) (by omega), show ((k + 1 : Nat) : Int) * B = (k : Int) * B + B by rw [Int.natCast_add, Int.add_mul]; simp]
    omega
def tT (T : Nat → Int32) : sp_T := fun a b => T (6 * a + b)
def mR (I : cp_I) (n set : Nat) (F kk : Nat → Nat) (l : Nat) (T : Nat → Int32) (w : Int32) : Prop := symR T ∧ (∀ a, a < n → kk a = sp_set n (fun o => decide (0 < T (6 * a + o))) ∧ F a = sp_set n (fun o => decide (T (6 * a + o) < 0))) ∧ w = sp_sum n (I 47 1) (tT T) set (I 47 0) ∧ -500 ≤ w.toInt ∧ w.toInt + 10 * l ≤ 500
theorem tR_at {T : Nat → Int32} {a b x y : Nat} (ha : a < 6) (hb : b < 6) (hx : x < 6) (hy : y < 6) : tieR T a b 1 (6 * x + y) = if (x = a ∧ y = b) ∨ (x = b ∧ y = a) then 1 else T (6 * x + y) := by
  unfold tieR
  by_cases e1 : x = b ∧ y = a
  · rw [if_pos (Or.inr e1), e1.1, e1.2, pk_us]
  · rw [pk_un (by omega)]
    by_cases e2 : x = a ∧ y = b
    · rw [if_pos (Or.inl e2), e2.1, e2.2, pk_us]
    · rw [pk_un (by omega), if_neg (by omega)]
theorem z01 : (0 : Int32) < 1 ∧ ¬ (0 : Int32) < 0 ∧ ¬ (1 : Int32) < 0 ∧ ¬ (1 : Int32) = 0 := by decide +kernel
theorem mR_s {l a b : Nat} {T : Nat → Int32} {w : Int32} {ch : Nat} (hn : n ≤ 6) (hch : ch ≤ 9) (hc : I 47 1 = nI ch) (h : mR I n set F kk (l + 1) T w) (hab : a < b) (hb : b < n) (h0 : T (6 * a + b) = 0) : mR I n set F (tgl kk a b) l (tieR T a b 1) (if (set.testBit a && set.testBit b) = true then w + I 47 1 + 1 else w) := by
  obtain ⟨h1, h2, h3, h4, h5⟩ := h
  have hT := symR_tie (v := 1) (show a < 6 by omega) (show b < 6 by omega) h1
  have h0' : T (6 * b + a) = 0 := by rw [← h1 a b (by omega) (by omega)]; exact h0
  refine ⟨hT, fun x hx => ?_, ?_, ?_⟩
  · have e2 := h2 x hx
    constructor
    · apply Nat.eq_of_testBit_eq
      intro i
      rw [sp_set_bit]
      unfold tgl updN
      by_cases hi : i < n
      · rw [decide_eq_true hi, Bool.true_and, tR_at (by omega) (by omega) (by omega) (by omega)]
        by_cases xb : x = b
        · subst xb
          rw [if_pos rfl, Nat.testBit_xor, Nat.testBit_two_pow, e2.1, sp_set_bit, decide_eq_true hi, Bool.true_and]
          by_cases ia : i = a
          · subst ia
            rw [if_pos (Or.inr ⟨rfl, rfl⟩), h0', decide_eq_false z01.2.1, decide_eq_true z01.1]
            simp
          · rw [if_neg (by omega), decide_eq_false (show ¬ a = i by omega), Bool.xor_false]
        · rw [if_neg xb]
          by_cases xa : x = a
          · subst xa
            rw [if_pos rfl, Nat.testBit_xor, Nat.testBit_two_pow, e2.1, sp_set_bit, decide_eq_true hi, Bool.true_and]
            by_cases ib : i = b
            · subst ib
              rw [if_pos (Or.inl ⟨rfl, rfl⟩), h0, decide_eq_false z01.2.1, decide_eq_true z01.1]
              simp
            · rw [if_neg (by omega), decide_eq_false (show ¬ b = i by omega), Bool.xor_false]
          · rw [if_neg xa, if_neg (by omega), e2.1, sp_set_bit, decide_eq_true hi, Bool.true_and]
      · rw [decide_eq_false hi, Bool.false_and]
        by_cases xb : x = b
        · rw [if_pos xb, Nat.testBit_xor, Nat.testBit_two_pow, decide_eq_false (show ¬ a = i by omega), Bool.xor_false, ← xb, e2.1, sp_set_bit, decide_eq_false hi, Bool.false_and]
        · rw [if_neg xb]
          by_cases xa : x = a
          · rw [if_pos xa, Nat.testBit_xor, Nat.testBit_two_pow, decide_eq_false (show ¬ b = i by omega), Bool.xor_false, ← xa, e2.1, sp_set_bit, decide_eq_false hi, Bool.false_and]
          · rw [if_neg xa, e2.1, sp_set_bit, decide_eq_false hi, Bool.false_and]
    · rw [e2.2]
      refine set_cong (fun o ho => ?_)
      rw [tR_at (by omega) (by omega) (by omega) (by omega)]
      by_cases q : (x = a ∧ o = b) ∨ (x = b ∧ o = a)
      · rw [if_pos q, decide_eq_false z01.2.2.1]
        rcases q with ⟨rfl, rfl⟩ | ⟨rfl, rfl⟩
        · rw [h0, decide_eq_false z01.2.1]
        · rw [h0', decide_eq_false z01.2.1]
      · rw [if_neg q]
  · have hs : ∀ x y, x < n → y < n → tT T x y = tT T y x := fun x y hx hy => h1 x y (by omega) (by omega)
    have hs' : ∀ x y, x < n → y < n → tT (tieR T a b 1) x y = tT (tieR T a b 1) y x := fun x y hx hy => hT x y (by omega) (by omega)
    have eu : sD n (fm (tT (tieR T a b 1)) set (I 47 1)) = sD n (fm (tT T) set (I 47 1)) + (if (set.testBit a && set.testBit b) = true then I 47 1 + 1 else 0) := by
      refine sD_upd hab hb ?_ (fun x y hxy hy hne => ?_)
      · unfold fm sp_pr tT
        rw [tR_at (by omega) (by omega) (by omega) (by omega), if_pos (Or.inl ⟨rfl, rfl⟩), h0, if_neg z01.2.2.2, if_pos rfl]
        by_cases q : set.testBit a = true ∧ set.testBit b = true
        · rw [if_pos q, if_pos q, if_pos (by simp [q]), neg_c]
        · rw [if_neg q, if_neg q, if_neg (by simpa using q), Int32.add_zero]
      · unfold fm sp_pr tT
        rw [tR_at (by omega) (by omega) (by omega) (by omega), if_neg (show ¬ ((x = a ∧ y = b) ∨ (x = b ∧ y = a)) by omega)]
    rw [sum_D hs', eu, h3, sum_D hs]
    by_cases q : (set.testBit a && set.testBit b) = true
    · rw [if_pos q, if_pos q, Int32.add_assoc (I 47 0 + _), Int32.add_assoc]
    · rw [if_neg q, if_neg q, Int32.add_zero]
  · by_cases q : (set.testBit a && set.testBit b) = true
    · rw [if_pos q, hc, Int32.add_assoc, nI_1, t_add (by rw [nI_toInt (by omega)]; omega) (by rw [nI_toInt (by omega)]; omega), nI_toInt (by omega)]
      omega
    · rw [if_neg q]
      omega
theorem rs_od {T : Nat → Int32} : rs (od I 56 T) n 56 set = decide (sp_bear n (rn I) (sp_warm n (I 47 0) (I 47 1) (tT T) set) set = set) := by
  have e1 : rn (od I 56 T) = rn I := by
    funext b
    unfold rn od
    rw [if_neg (by omega), if_neg (by omega)]
  have e2 : rt (od I 56 T) 56 = tT T := by
    funext a b
    unfold rt od tT
    rw [if_pos rfl]
  unfold rs rb rw_
  rw [e1, e2, od56_47, od56_47]
theorem bear_eq {nd : Nat → Int32} {w : Int32} {z : Nat} (hz : z < 2 ^ n) : sp_bear n nd w z = z ↔ ∀ b, b < n → z.testBit b = true → nd b ≤ w := by
  unfold sp_bear
  constructor
  · intro h b hb hbt
    have e := sp_set_bit n (fun b => z.testBit b && decide (nd b ≤ w)) b
    rw [h, hbt] at e
    simp only [decide_eq_true hb, Bool.true_and] at e
    exact of_decide_eq_true e.symm
  · intro h
    apply Nat.eq_of_testBit_eq
    intro b
    rw [sp_set_bit]
    cases e : z.testBit b with
    | false => simp
    | true =>
      have hb := bit_n hz e
      simp [hb, h b hb e]
theorem leaf_eq {T : Nat → Int32} {w nd : Int32} (hset : set < 2 ^ n) (hnd : nd = fo (sp_gr (rn I) set) n 0 0) (hn2 : nd ≤ 200) (hw : w = sp_sum n (I 47 1) (tT T) set (I 47 0)) : rs (od I 56 T) n 56 set = !decide (mx0 w < nd) := by
  rw [rs_od, Bool.eq_iff_iff, decide_eq_true_eq, bear_eq hset, Bool.not_eq_true', decide_eq_false_iff_not, Int32.not_lt]
  unfold sp_warm
  rw [← hw]
  have hg := gr_le (nd := rn I) (z := set) (w := sp_cl w) n 0 0
  rw [← hnd] at hg
  have h0 : (0 : Int32) ≤ sp_cl w := Int32.not_lt.mp (cl_ge _)
  have e1 : (∀ b, b < n → set.testBit b = true → rn I b ≤ sp_cl w) ↔ nd ≤ sp_cl w := by
    rw [hg]
    exact ⟨fun q => ⟨h0, fun b _ hb hbt => q b (by omega) hbt⟩, fun q b hb hbt => q.2 b (by omega) (by omega) hbt⟩
  rw [e1]
  have z0 : (0 : Int32).toInt = 0 := rfl
  have z2 : (200 : Int32).toInt = 200 := by decide +kernel
  have n0 : 0 ≤ nd.toInt := by
    have := (gr_le (nd := rn I) (z := set) (w := nd) n 0 0).mp (by rw [← hnd]; exact Int32.le_refl _)
    have := this.1
    rw [Int32.le_iff_toInt_le, z0] at this
    exact this
  unfold sp_cl mx0
  rw [Int32.le_iff_toInt_le, z2] at hn2
  rw [Int32.le_iff_toInt_le, Int32.le_iff_toInt_le]
  by_cases c1 : w < 0
  · have c1' : ¬ 0 < w := by
      rw [Int32.lt_iff_toInt_lt, z0] at c1 ⊢
      omega
    rw [if_pos c1, if_neg c1']
  · rw [if_neg c1]
    rw [Int32.lt_iff_toInt_lt, z0] at c1
    by_cases c2 : (200 : Int32) < w
    · rw [if_pos c2, z2]
      rw [Int32.lt_iff_toInt_lt, z2] at c2
      rw [if_pos (by rw [Int32.lt_iff_toInt_lt, z0]; omega)]
      omega
    · rw [if_neg c2]
      by_cases c3 : 0 < w
      · rw [if_pos c3]
      · rw [if_neg c3]
        rw [Int32.lt_iff_toInt_lt, z0] at c3
        have : w.toInt = 0 := by omega
        rw [this, z0]
theorem fi_no {p : Nat → Option Nat} : ∀ (m k : Nat), (∀ j, k ≤ j → j < k + m → p j = none) → fi p m k = none
  | 0, _, _ => rfl
  | m + 1, k, h => by
    show (match p k with | some a => some a | none => fi p m (k + 1)) = none
    rw [h k (by omega) (by omega)]
    exact fi_no m (k + 1) (fun j j1 j2 => h j (by omega) (by omega))
theorem fi_fiO {p q : Nat → Option Nat} : ∀ (m k : Nat), (∀ j, k ≤ j → j < k + m → p j = q j) → fi p m k = fiO q m k
  | 0, _, _ => rfl
  | m + 1, k, h => by
    rw [fi, fiO, h k (by omega) (by omega)]
    cases q k with
    | some a => rfl
    | none => exact fi_fiO m (k + 1) (fun j j1 j2 => h j (by omega) (by omega))
def tmF (I : cp_I) (n set : Nat) : Nat → (Nat → Int32) → Option Nat := sp_tm (fun T => rs (od I 56 T) n 56 set) (fun T => rm_ (od I 56 T) n 56) n
theorem mx_add {w : Int32} {l ch : Nat} (hch : ch ≤ 9) (hl : l ≤ 3) (h4 : -500 ≤ w.toInt) (h5 : w.toInt ≤ 500) : (w + nI l * (nI ch + 1)).toInt = w.toInt + (l : Int) * (ch + 1) := by
  have hb : l * (ch + 1) ≤ 30 := by
    have := Nat.mul_le_mul hl (show ch + 1 ≤ 10 by omega)
    omega
  rw [nI_1, pk_mul, t_add (by rw [nI_toInt (by omega)]; omega) (by rw [nI_toInt (by omega)]; omega), nI_toInt (by omega)]
  congr 1
theorem mx_lt {a b nd : Int32} (h : a.toInt ≤ b.toInt) (hb : mx0 b < nd) : mx0 a < nd := by
  have z0 : (0 : Int32).toInt = 0 := rfl
  unfold mx0 at hb ⊢
  rw [Int32.lt_iff_toInt_lt] at hb ⊢
  by_cases c1 : 0 < a
  · rw [if_pos c1]
    rw [Int32.lt_iff_toInt_lt, z0] at c1
    rw [if_pos (by rw [Int32.lt_iff_toInt_lt, z0]; omega)] at hb
    omega
  · rw [if_neg c1, z0]
    by_cases c2 : 0 < b
    · rw [if_pos c2] at hb
      rw [Int32.lt_iff_toInt_lt, z0] at c2
      omega
    · rw [if_neg c2, z0] at hb
      exact hb
theorem rm_T {T : Nat → Int32} {a b : Nat} (h : rm_ (od I 56 T) n 56 a b = true) : T (6 * a + b) = 0 := by
  unfold rm_ at h
  rw [Bool.and_eq_true, decide_eq_true_eq] at h
  have h1 := h.1
  unfold rt od at h1
  rw [if_pos rfl] at h1
  exact h1
theorem prune {nd : Int32} {ch : Nat} (hn : n ≤ 6) (hset : set < 2 ^ n) (hch : ch ≤ 9) (hc : I 47 1 = nI ch) (hnd : nd = fo (sp_gr (rn I) set) n 0 0) (hn2 : nd ≤ 200) : ∀ (l : Nat) (kk : Nat → Nat) (T : Nat → Int32) (w : Int32), l ≤ 3 → mR I n set F kk l T w → mx0 (w + nI l * (I 47 1 + 1)) < nd → tmF I n set l T = none
  | 0, kk, T, w, _, h, hp => by
    show (if rs (od I 56 T) n 56 set = true then some 0 else none) = none
    have e : w + nI 0 * (I 47 1 + 1) = w := by rw [nI_0, Int32.zero_mul, Int32.add_zero]
    rw [e] at hp
    rw [leaf_eq hset hnd hn2 h.2.2.1, decide_eq_true hp]
    rfl
  | l + 1, kk, T, w, hl, h, hp => by
    show fi (fun a => fi (fun b => if (rm_ (od I 56 T) n 56 a b && (tmF I n set l (tieR T a b 1)).isSome) = true then some (10 * a + b) else none) (n - (a + 1)) (a + 1)) n 0 = none
    refine fi_no n 0 (fun a _ ha => fi_no _ _ (fun b hb1 hb2 => ?_))
    refine if_neg (fun z => ?_)
    rw [Bool.and_eq_true] at z
    have hs := mR_s hn hch hc h (show a < b by omega) (show b < n by omega) (rm_T z.1)
    have h4 := h.2.2.2.1
    have h5 := h.2.2.2.2
    have h4' := hs.2.2.2.1
    have h5' := hs.2.2.2.2
    rw [prune hn hset hch hc hnd hn2 l _ _ _ (by omega) hs (mx_lt ?_ hp)] at z
    · exact absurd z.2 (by decide)
    · rw [hc, mx_add hch (by omega) (by rw [← hc]; exact h4') (by rw [← hc]; omega), mx_add hch (by omega) h4 (by omega)]
      have el : ((l + 1 : Nat) : Int) * ((ch : Int) + 1) = (l : Int) * ((ch : Int) + 1) + ((ch : Int) + 1) := by rw [Int.natCast_add, Int.add_mul]; simp
      rw [el]
      have ew : (if (set.testBit a && set.testBit b) = true then w + nI ch + 1 else w).toInt ≤ w.toInt + (ch + 1) := by
        by_cases q : (set.testBit a && set.testBit b) = true
        · rw [if_pos q, Int32.add_assoc, nI_1, t_add (by rw [nI_toInt (by omega)]; omega) (by rw [nI_toInt (by omega)]; omega), nI_toInt (by omega)]
          omega
        · rw [if_neg q]
          omega
      omega
theorem meet_eq {nd : Int32} {ch : Nat} (hn : n ≤ 6) (hset : set < 2 ^ n) (hch : ch ≤ 9) (hc : I 47 1 = nI ch) (hnd : nd = fo (sp_gr (rn I) set) n 0 0) (hn2 : nd ≤ 200) : ∀ (l : Nat) (kk : Nat → Nat) (T : Nat → Int32) (w : Int32), l ≤ 3 → mR I n set F kk l T w → sp_ie (I 47 1) nd F set n l kk w = (tmF I n set l T).map (fun v => if l = 0 then none else some v)
  | 0, kk, T, w, _, h => by
    show (if mx0 (w + nI 0 * (I 47 1 + 1)) < nd then none else some none) = Option.map _ (if rs (od I 56 T) n 56 set = true then some 0 else none)
    have e : w + nI 0 * (I 47 1 + 1) = w := by rw [nI_0, Int32.zero_mul, Int32.add_zero]
    rw [e, leaf_eq hset hnd hn2 h.2.2.1]
    by_cases q : mx0 w < nd
    · rw [if_pos q, decide_eq_true q]
      rfl
    · rw [if_neg q, decide_eq_false q]
      rfl
  | l + 1, kk, T, w, hl, h => by
    by_cases q : mx0 (w + nI (l + 1) * (I 47 1 + 1)) < nd
    · rw [prune hn hset hch hc hnd hn2 (l + 1) kk T w hl h q]
      show (if mx0 (w + nI (l + 1) * (I 47 1 + 1)) < nd then none else _) = none
      rw [if_pos q]
    · show (if mx0 (w + nI (l + 1) * (I 47 1 + 1)) < nd then none else (fiO (fun a => fiO (fun b => if (cmt kk F a b && (sp_ie (I 47 1) nd F set n l (tgl kk a b) (if (set.testBit a && set.testBit b) = true then w + I 47 1 + 1 else w)).isSome) = true then some (10 * a + b) else none) (n - (a + 1)) (a + 1)) n 0).map some) = Option.map (fun v => if l + 1 = 0 then none else some v) (fi (fun a => fi (fun b => if (rm_ (od I 56 T) n 56 a b && (tmF I n set l (tieR T a b 1)).isSome) = true then some (10 * a + b) else none) (n - (a + 1)) (a + 1)) n 0)
      rw [if_neg q]
      have e : (fun v : Nat => if l + 1 = 0 then none else some v) = some := by
        funext v
        exact if_neg (by omega)
      rw [e]
      congr 1
      refine (fi_fiO n 0 (fun a _ ha => fi_fiO _ _ (fun b hb1 hb2 => ?_))).symm
      have em : cmt kk F a b = rm_ (od I 56 T) n 56 a b := by
        have ka := h.2.1 a (by omega)
        have kb := h.2.1 b (by omega)
        have ek : ∀ x, rk (od I 56 T) n 56 x = sp_set n (fun o => decide (0 < T (6 * x + o))) := fun x => by
          unfold rk rt od
          exact set_cong (fun o _ => by rw [if_pos rfl])
        have et : rt (od I 56 T) 56 a b = T (6 * a + b) := by
          unfold rt od
          rw [if_pos rfl]
        unfold cmt rm_
        rw [ek, ek, ← ka.1, ← kb.1, et]
        congr 1
        rw [Nat.testBit_or, ka.1, ka.2, sp_set_bit, sp_set_bit, decide_eq_true (show b < n by omega), Bool.true_and, Bool.true_and, Bool.eq_iff_iff]
        simp only [Bool.not_eq_true', Bool.or_eq_false_iff, decide_eq_false_iff_not, decide_eq_true_eq]
        rw [Int32.lt_iff_toInt_lt, Int32.lt_iff_toInt_lt, ← Int32.toInt_inj]
        have : (0 : Int32).toInt = 0 := rfl
        omega
      rw [em]
      by_cases c : rm_ (od I 56 T) n 56 a b = true
      · have hs := mR_s hn hch hc h (show a < b by omega) (show b < n by omega) (rm_T c)
        rw [meet_eq hn hset hch hc hnd hn2 l _ _ _ (by omega) hs, Option.isSome_map]
      · rw [show rm_ (od I 56 T) n 56 a b = false by simpa using c, Bool.false_and, Bool.false_and]
end Meet
