section Brg
variable {g : cp_G} {d : Nat} {I M N : cp_I} {J : cp_J} {t u r x n s m : Nat}
/-! class and reference: one maths -/
theorem set_cong {p q : Nat → Bool} (h : ∀ b, b < n → p b = q b) : sp_set n p = sp_set n q := fo_congr n 0 0 (fun j _ h2 z => by show (if p j = true then _ else _) = (if q j = true then _ else _); rw [h j (by omega)])
theorem al_cong {p q : Nat → Bool} : ∀ (m k : Nat), (∀ b, k ≤ b → b < k + m → p b = q b) → sp_al p m k = sp_al q m k
  | 0, _, _ => rfl
  | m + 1, k, h => by
    show (p k && sp_al p m (k + 1)) = (q k && sp_al q m (k + 1))
    rw [h k (by omega) (by omega), al_cong m (k + 1) (fun b h1 h2 => h b (by omega) (by omega))]
theorem nth_cong {p q : Nat → Bool} {i : Int32} : ∀ (m k z : Nat), (∀ b, k ≤ b → b < k + m → p b = q b) → sp_nth p i m k z = sp_nth q i m k z
  | 0, _, _, _ => rfl
  | m + 1, k, z, h => by
    show (if p k = true then (if nI z = i then some k else sp_nth p i m (k + 1) (z + 1)) else sp_nth p i m (k + 1) z) = (if q k = true then (if nI z = i then some k else sp_nth q i m (k + 1) (z + 1)) else sp_nth q i m (k + 1) z)
    rw [h k (by omega) (by omega), nth_cong m (k + 1) (z + 1) (fun b h1 h2 => h b (by omega) (by omega)), nth_cong m (k + 1) z (fun b h1 h2 => h b (by omega) (by omega))]
theorem bst_cong {ok ok' : Nat → Bool} {bt bt' : Nat → Nat → Bool} {N : Nat} (h : ∀ b, b < N → ok b = ok' b) (h2 : ∀ b c, b < N → c < N → bt b c = bt' b c) : ∀ (m k : Nat) (o : Option Nat), k + m = N → (∀ c, o = some c → c < N) → fo (sp_bst ok bt) m k o = fo (sp_bst ok' bt') m k o
  | 0, _, _, _, _ => rfl
  | m + 1, k, o, hk, ho => by
    have e : sp_bst ok bt k o = sp_bst ok' bt' k o := by
      cases o with
      | none =>
        show (if ok k = true then some k else none) = (if ok' k = true then some k else none)
        rw [h k (by omega)]
      | some c =>
        show (if ok k = true ∧ bt k c = true then some k else some c) = (if ok' k = true ∧ bt' k c = true then some k else some c)
        rw [h k (by omega), h2 k c (by omega) (ho c rfl)]
    rw [fo, fo, e]
    refine bst_cong h h2 m (k + 1) _ (by omega) (fun c hc => ?_)
    cases o with
    | none =>
      simp only [sp_bst] at hc
      split at hc
      · cases hc
        omega
      · cases hc
    | some b =>
      simp only [sp_bst] at hc
      split at hc
      · cases hc
        omega
      · cases hc
        exact ho _ rfl
theorem iv_tk (h : ivB I t n s m) : tk t := h.1
theorem iv_n6 (h : ivB I t n s m) : n ≤ 6 := h.2.1
theorem iv_n (h : ivB I t n s m) : I 47 4 = nI n := h.2.2.1
theorem iv_fr4 (h : ivB I t n s m) : cFr (I 47) I t := h.2.2.2.2.2.1
theorem iv_tw (h : ivB I t n s m) : tw (I 47) n := h.2.2.2.2.1
theorem iv_hd (h : ivB I t n s m) : I t 0 = I 47 0 ∧ I t 1 = I 47 1 ∧ I t 2 = I 47 2 ∧ I t 3 = I 47 3 ∧ I t 4 = I 47 4 ∧ I t 6 = I 47 7 ∧ I t 7 = I 47 8 := (iv_fr4 h).1
theorem iv_cn (h : ivB I t n s m) : I t 4 = nI n := by rw [(iv_hd h).2.2.2.2.1]; exact iv_n h
theorem iv_nn (h : ivB I t n s m) : (I 47 4).toNatClampNeg = n := by rw [iv_n h]; exact ncl (by have := iv_n6 h; omega)
theorem iv_kb (h : ivB I t n s m) {b : Nat} (hb : b < n) : I (t + 2) b = I 47 (10 + 2 * b) ∧ I (t + 3) b = I 47 (11 + 2 * b) := (iv_fr4 h).2.1 b (by rw [iv_nn h]; exact hb)
theorem iv_cT (h : ivB I t n s m) : cT I t n := ⟨h.1, h.2.1, iv_cn h, fun b hb => by
  rw [(iv_kb h hb).2]
  exact (iv_tw h).1.2.2.2.2 b hb⟩
theorem iv_s (h : ivB I t n s m) : s < 2 ^ n := h.2.2.2.2.2.2.2.2.1
theorem iv_64 (h : ivB I t n s m) : s < 64 := Nat.lt_of_lt_of_le (iv_s h) (pw64 (iv_n6 h))
theorem iv_mOK (h : ivB I t n s m) : mOK m := h.2.2.2.2.2.2.2.2.2.1
theorem iv_in (h : ivB I t n s m) : I 15 1 = nI s := h.2.2.2.2.2.2.2.2.2.2.1
theorem iv_m (h : ivB I t n s m) : I 15 2 = nI m := h.2.2.2.2.2.2.2.2.2.2.2.1
theorem iv_row (h : ivB I t n s m) : rowR I t 49 0 s m (I 15 3) := h.2.2.2.2.2.2.2.2.2.2.2.2.1
theorem iv_bOK (h : ivB I t n s m) : bOK I t n m := h.2.2.2.2.2.2.2.2.2.2.2.2.2.1
theorem iv_55 (h : ivB I t n s m) : ∀ j, I 55 j = 0 := h.2.2.2.2.2.2.2.2.2.2.2.2.2.2
theorem iv_st (h : ivB I t n s m) : I 49 36 = nI s := (iv_row h).2.1
theorem iv_14 (h : ivB I t n s m) : I 44 14 = if n = 0 then 0 else 1 := h.2.2.2.1
theorem iv_01 (h : ivB I t n s m) : I 44 14 = 0 ∨ I 44 14 = 1 := by
  rw [iv_14 h]
  by_cases e : n = 0
  · exact Or.inl (if_pos e)
  · exact Or.inr (if_neg e)
theorem iv_p0 (h : ivB I t n s m) (h0 : n = 0) : I 44 14 = 0 := by rw [iv_14 h, if_pos h0]
theorem iv_p1 (h : ivB I t n s m) (h0 : 0 < n) : ¬ I 44 14 = 0 := by
  rw [iv_14 h, if_neg (by omega)]
  decide +kernel
theorem mOK_lt {m : Nat} (h : mOK m) : m < 2 ^ 30 := by
  refine Nat.lt_pow_two_of_testBit _ (fun i hi => ?_)
  cases e : m.testBit i with
  | false => rfl
  | true =>
    have := (h i e).1
    omega
theorem pbk_ok {a b : Nat} (ha : a < 6) (hb : b < 6) (hab : a ≠ b) : pbk a b < 30 ∧ pbk a b / 6 < pbk a b % 6 := by
  have key : ∀ a : Nat, a < 6 → ∀ b : Nat, b < 6 → a ≠ b → pbk a b < 30 ∧ pbk a b / 6 < pbk a b % 6 := by decide
  exact key a ha b hb hab
theorem pbk_comm (a b : Nat) : pbk a b = pbk b a := by unfold pbk; rw [Nat.min_comm, Nat.max_comm]
theorem ctm_dg (h : ivB I t n s m) {m' : Nat} (hm : mOK m') {b : Nat} (hb : b < 6) : ctm I t m' b b = 0 := by
  have e1 : I (t + 4) (6 * b + b) = 0 := by
    rw [(iv_fr4 h).2.2.1 b b hb hb]
    have q := (iv_tw h).2.1 b b hb hb
    exact q.2.2.2.2.1 (q.2.1 rfl)
  have e2 : m'.testBit (pbk b b) = false := by
    cases e : m'.testBit (pbk b b) with
    | false => rfl
    | true =>
      have := (hm _ e).2
      have key : ∀ b : Nat, b < 6 → ¬ pbk b b / 6 < pbk b b % 6 := by decide
      exact absurd this (key b hb)
  unfold ctm
  rw [e1, e2]
  simp
theorem ctm_sym (h : ivB I t n s m) (m' : Nat) {a b : Nat} (ha : a < 6) (hb : b < 6) : ctm I t m' a b = ctm I t m' b a := by
  unfold ctm
  rw [(iv_fr4 h).2.2.1 a b ha hb, (iv_fr4 h).2.2.1 b a hb ha, pbk_comm a b, ((iv_tw h).2.1 a b ha hb).1]
theorem iv_rt (h : ivB I t n s m) {a b : Nat} (ha : a < 6) (hb : b < 6) : rt I 49 a b = ctm I t m a b := by
  have := (iv_row h).1 a b ha hb
  rw [Nat.zero_add] at this
  exact this
theorem iv_sum (h : ivB I t n s m) (c w : Int32) (z : Nat) : sp_sum n c (ctm I t m) z w = sp_sum n c (rt I 49) z w := by
  have h6 := iv_n6 h
  refine fo_congr n 0 w (fun a _ ha y => ?_)
  refine fo_congr a 0 y (fun b _ hb y => ?_)
  unfold sp_row sp_pr
  rw [iv_rt h (by omega) (by omega)]
theorem iv_cw (h : ivB I t n s m) {z : Nat} (hz : z < 2 ^ n) : cw I z = rw_ I n 49 z := by
  unfold cw rw_ sp_warm
  rw [((iv_bOK h).2 z hz).1, iv_sum h, (iv_hd h).1, (iv_hd h).2.1]
theorem iv_nd (h : ivB I t n s m) {b : Nat} (hb : b < n) : cn I t b = rn I b := by
  unfold cn rn
  rw [(iv_kb h hb).1, (iv_kb h hb).2]
theorem iv_cb (h : ivB I t n s m) {z : Nat} (hz : z < 2 ^ n) : cb I t n z = rb I n 49 z := by
  unfold cb rb sp_bear
  rw [iv_cw h hz]
  exact set_cong (fun b hb => by rw [iv_nd h hb])
theorem gr_le {nd : Nat → Int32} {z : Nat} {w : Int32} : ∀ (m k : Nat) (y : Int32), fo (sp_gr nd z) m k y ≤ w ↔ y ≤ w ∧ ∀ b, k ≤ b → b < k + m → z.testBit b = true → nd b ≤ w
  | 0, k, y => ⟨fun h => ⟨h, fun b h1 h2 => by omega⟩, fun h => h.1⟩
  | m + 1, k, y => by
    rw [fo, gr_le m (k + 1)]
    unfold sp_gr
    constructor
    · rintro ⟨h1, h2⟩
      by_cases e : z.testBit k = true
      · rw [if_pos e] at h1
        by_cases e2 : nd k ≤ y
        · rw [if_pos e2] at h1
          refine ⟨h1, fun b b1 b2 b3 => ?_⟩
          by_cases eb : b = k
          · rw [eb]
            exact Int32.le_trans e2 h1
          · exact h2 b (by omega) (by omega) b3
        · rw [if_neg e2] at h1
          refine ⟨?_, fun b b1 b2 b3 => ?_⟩
          · rw [Int32.le_iff_toInt_le] at e2 h1 ⊢
            omega
          · by_cases eb : b = k
            · rw [eb]
              exact h1
            · exact h2 b (by omega) (by omega) b3
      · rw [if_neg e] at h1
        refine ⟨h1, fun b b1 b2 b3 => ?_⟩
        by_cases eb : b = k
        · rw [eb] at b3
          exact absurd b3 e
        · exact h2 b (by omega) (by omega) b3
    · rintro ⟨h1, h2⟩
      refine ⟨?_, fun b b1 b2 b3 => h2 b (by omega) (by omega) b3⟩
      by_cases e : z.testBit k = true
      · rw [if_pos e]
        by_cases e2 : nd k ≤ y
        · rw [if_pos e2]
          exact h1
        · rw [if_neg e2]
          exact h2 k (by omega) (by omega) e
      · rw [if_neg e]
        exact h1
theorem bit_n {z n b : Nat} (hz : z < 2 ^ n) (hb : z.testBit b = true) : b < n := by
  rcases Nat.lt_or_ge b n with q | q
  · exact q
  · rw [Nat.testBit_lt_two_pow (Nat.lt_of_lt_of_le hz (Nat.pow_le_pow_right (by omega) q))] at hb
    cases hb
theorem rb_eq {n ρ z : Nat} (hz : z < 2 ^ n) : rb I n ρ z = z ↔ ∀ b, b < n → z.testBit b = true → rn I b ≤ rw_ I n ρ z := by
  constructor
  · intro h b hb hbt
    have e := rb_bit I n ρ z b
    rw [h, hbt] at e
    simp only [decide_eq_true hb, Bool.true_and] at e
    exact of_decide_eq_true e.symm
  · intro h
    apply Nat.eq_of_testBit_eq
    intro b
    rw [rb_bit]
    cases e : z.testBit b with
    | false => simp
    | true =>
      have hb := bit_n hz e
      simp [hb, h b hb e]
theorem iv_cs (h : ivB I t n s m) {z : Nat} (hz : z < 2 ^ n) : cs I z = rs I n 49 z := by
  unfold cs rs
  rw [Bool.eq_iff_iff, decide_eq_true_eq, decide_eq_true_eq, rb_eq hz, iv_cw h hz, ((iv_bOK h).2 z hz).2, gr_le]
  have h0 : (0 : Int32) ≤ rw_ I n 49 z := Int32.not_lt.mp (cl_ge _)
  constructor
  · rintro ⟨-, h2⟩ b hb hbt
    rw [← iv_nd h hb]
    exact h2 b (by omega) (by omega) hbt
  · intro q
    refine ⟨h0, fun b _ hb hbt => ?_⟩
    rw [iv_nd h (by omega)]
    exact q b (by omega) hbt
theorem or_ltn {z n b : Nat} (hz : z < 2 ^ n) (hb : b < n) : z ||| 2 ^ b < 2 ^ n := Nat.or_lt_two_pow hz (Nat.pow_lt_pow_right (by omega) hb)
theorem iv_cd (h : ivB I t n s m) {z b : Nat} (hz : z < 2 ^ n) (hb : b < n) : cd I t b z = rd I n b z := by
  unfold cd rd
  rw [iv_cw h (or_ltn hz hb), iv_nd h hb]
theorem iv_crr (h : ivB I t n s m) {z : Nat} (hz : z < 2 ^ n) : crr I t n z = rr I n z := by
  unfold crr rr
  rw [iv_cs h hz, al_cong n 0 (fun b _ hb => by rw [iv_cd h hz (by omega)])]
theorem iv_K (h : ivB I t n s m) {b : Nat} (hb : b < n) : cK I t n m b = rk I n 49 b := by
  have h6 := iv_n6 h
  unfold cK rk
  refine set_cong (fun o ho => ?_)
  rw [iv_rt h (by omega) (by omega)]
  by_cases e : o = b
  · subst e
    have e0 : ¬ (0 : Int32) < 0 := by decide +kernel
    rw [ctm_dg h (iv_mOK h) (by omega)]
    simp [e0]
  · simp [e]
theorem iv_F (h : ivB I t n s m) {b : Nat} (hb : b < n) : cF I t n m b = rf I n b := by
  have h6 := iv_n6 h
  unfold cF rf
  refine set_cong (fun o ho => ?_)
  rw [iv_rt h (by omega) (by omega)]
  by_cases e : o = b
  · subst e
    have e0 : ¬ (0 : Int32) < 0 := by decide +kernel
    rw [ctm_dg h (iv_mOK h) (by omega)]
    simp [e0]
  · simp [e]
theorem iv_KF (h : ivB I t n s m) : cKF I n (rk I n 49) (rf I n) := by
  intro b hb
  obtain ⟨k1, k2⟩ := (iv_bOK h).1 b hb
  rw [iv_K h hb] at k1
  rw [iv_F h hb] at k2
  exact ⟨k1, sp_set_lt (iv_n6 h) _, k2, sp_set_lt (iv_n6 h) _⟩
theorem iv_mt (h : ivB I t n s m) {a b : Nat} (hb : b < n) : cmt (rk I n 49) (rf I n) a b = rm_ I n 49 a b := by
  unfold cmt rm_
  congr 1
  rw [Nat.testBit_or]
  unfold rk rf
  rw [sp_set_bit, sp_set_bit, decide_eq_true hb, Bool.true_and, Bool.true_and]
  have e : (0 < rt I 49 a b ∨ rt I 49 a b < 0) ↔ ¬ rt I 49 a b = 0 := by
    rw [Int32.lt_iff_toInt_lt, Int32.lt_iff_toInt_lt, ← Int32.toInt_inj]
    have : (0 : Int32).toInt = 0 := rfl
    omega
  rw [Bool.eq_iff_iff]
  simp only [Bool.not_eq_true', Bool.or_eq_false_iff, decide_eq_false_iff_not, decide_eq_true_eq]
  constructor
  · rintro ⟨e1, e2⟩
    exact Classical.byContradiction fun z => by
      rcases e.mpr z with q | q
      · exact e1 q
      · exact e2 q
  · intro z
    exact ⟨fun q => e.mp (Or.inl q) z, fun q => e.mp (Or.inr q) z⟩
theorem rb_lt2 {n ρ z : Nat} (hz : z < 2 ^ n) : rb I n ρ z < 2 ^ n := by
  refine Nat.lt_pow_two_of_testBit _ (fun i hi => ?_)
  rw [rb_bit]
  have : ¬ i < n := by omega
  simp [this]
theorem iv_stS (h : ivB I t n s m) : ∀ (f z : Nat), z < 2 ^ n → sp_stS (cs I) (cb I t n) f z = sp_stay (rb I n 49) f z
  | 0, _, _ => rfl
  | f + 1, z, hz => by
    unfold sp_stS sp_stay
    rw [iv_cs h hz, iv_cb h hz, iv_stS h f _ (rb_lt2 hz)]
    unfold rs
    by_cases e : rb I n 49 z = z
    · rw [if_pos (decide_eq_true e), if_pos e]
    · rw [if_neg (by simp [e]), if_neg e]
/-! who is asked for -/
theorem iv_isB (h : ivB I t n s m) {b : Nat} (hb : b < n) : isB I (nI b) := by
  have h6 := iv_n6 h
  refine ⟨iv_p1 h (by omega), nI_pos (by omega), ?_⟩
  rw [iv_n h]
  obtain ⟨k, rfl⟩ : ∃ k, n = k + 1 := ⟨n - 1, by omega⟩
  rw [nI_pred]
  exact nI_nlt (by omega) (by omega)
theorem iv_noB (h : ivB I t n s m) {bb : Int32} (hb : ¬ ∃ b, b < n ∧ bb = nI b) : ¬ isB I bb := fun q => hb (isB_n (iv_n6 h) (iv_n h) q)
theorem iv_sw (h : ivB I t n s m) (h0 : 0 < n) {z : Nat} (hz : z < 2 ^ n) : sw I n (nI z) = 0 := by
  have h6 := pw64 (iv_n6 h)
  unfold sw
  rw [if_neg (iv_p1 h h0), if_neg (nI_pos (by omega)), if_neg (nI_nlt (by omega) (by omega))]
theorem iv_sw2 (h : ivB I t n s m) (h0 : 0 < n) {a : Int32} (hz : ¬ ∃ z, z < 2 ^ n ∧ a = nI z) : sw I n a = 2 := by
  have h6 := pw64 (iv_n6 h)
  have hp := pwp n
  unfold sw
  rw [if_neg (iv_p1 h h0)]
  by_cases e : a < 0
  · rw [if_pos e]
  · rw [if_neg e]
    obtain ⟨k, hk, rfl⟩ := nI_of e
    have hk2 : ¬ k < 2 ^ n := fun q => hz ⟨k, q, rfl⟩
    rw [if_pos (nI_lt (by omega) (by omega))]
theorem iv_sw0 (h : ivB I t n s m) (h0 : n = 0) (a : Int32) : sw I n a = 1 := by
  unfold sw
  rw [if_pos (iv_p0 h h0)]
theorem iv_mw (h : ivB I t n s m) (h0 : 0 < n) {k : Nat} (hk : k ≤ n) : mw I (nI k) = 0 := by
  have h6 := iv_n6 h
  unfold mw
  rw [if_neg (iv_p1 h h0), if_neg (nI_pos (by omega)), iv_n h, if_neg (nI_nlt hk (by omega))]
theorem iv_mw2 (h : ivB I t n s m) (h0 : 0 < n) {a : Int32} (hz : ¬ ∃ z, z ≤ n ∧ a = nI z) : mw I a = 2 := by
  have h6 := iv_n6 h
  unfold mw
  rw [if_neg (iv_p1 h h0)]
  by_cases e : a < 0
  · rw [if_pos e]
  · rw [if_neg e]
    obtain ⟨k, hk, rfl⟩ := nI_of e
    have hk2 : ¬ k ≤ n := fun q => hz ⟨k, q, rfl⟩
    rw [iv_n h, if_pos (nI_lt (by omega) (by omega))]
theorem iv_mw0 (h : ivB I t n s m) (h0 : n = 0) (a : Int32) : mw I a = 1 := by
  unfold mw
  rw [if_pos (iv_p0 h h0)]
theorem iv_lw (h : ivB I t n s m) (h0 : 0 < n) {k : Nat} (hk : k ≤ 9) : lw I (nI k) = 0 := by
  unfold lw
  rw [if_neg (iv_p1 h h0), if_neg (nI_pos (by omega)), if_neg (show ¬ (9 : Int32) < nI k from nI_nlt (a := 9) hk (by omega))]
theorem iv_lw2 (h : ivB I t n s m) (h0 : 0 < n) {a : Int32} (hz : ¬ ∃ z, z ≤ 9 ∧ a = nI z) : lw I a = 2 := by
  unfold lw
  rw [if_neg (iv_p1 h h0)]
  by_cases e : a < 0
  · rw [if_pos e]
  · rw [if_neg e]
    obtain ⟨k, hk, rfl⟩ := nI_of e
    have hk2 : ¬ k ≤ 9 := fun q => hz ⟨k, q, rfl⟩
    rw [if_pos (show (9 : Int32) < nI k from nI_lt (a := 9) (by omega) (by omega))]
theorem iv_lw0 (h : ivB I t n s m) (h0 : n = 0) (a : Int32) : lw I a = 1 := by
  unfold lw
  rw [if_pos (iv_p0 h h0)]
end Brg
