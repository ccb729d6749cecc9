section Grf
variable {g : cp_G} {d : Nat} {I : cp_I} {J : cp_J} {t u r x n s m : Nat} {K : Nat → Nat}
/-! who is reached over friends: as many steps as bathers are enough -/
theorem spr_bit {s i : Nat} : ∀ (m k z : Nat), (fo (sp_spr K s) m k z).testBit i = true ↔ z.testBit i = true ∨ ∃ b, k ≤ b ∧ b < k + m ∧ s.testBit b = true ∧ (K b).testBit i = true
  | 0, k, z => ⟨fun h => Or.inl h, fun h => by
    rcases h with h | ⟨b, h1, h2, -⟩
    · exact h
    · omega⟩
  | m + 1, k, z => by
    rw [fo, spr_bit m (k + 1)]
    unfold sp_spr
    constructor
    · rintro (h | ⟨b, h1, h2, h3, h4⟩)
      · by_cases e : s.testBit k = true
        · rw [if_pos e, Nat.testBit_or, Bool.or_eq_true] at h
          rcases h with h | h
          · exact Or.inl h
          · exact Or.inr ⟨k, by omega, by omega, e, h⟩
        · rw [if_neg e] at h
          exact Or.inl h
      · exact Or.inr ⟨b, by omega, by omega, h3, h4⟩
    · rintro (h | ⟨b, h1, h2, h3, h4⟩)
      · left
        by_cases e : s.testBit k = true
        · rw [if_pos e, Nat.testBit_or, h, Bool.true_or]
        · rw [if_neg e]
          exact h
      · by_cases e : b = k
        · subst e
          left
          rw [if_pos h3, Nat.testBit_or, h4, Bool.or_true]
        · exact Or.inr ⟨b, by omega, by omega, h3, h4⟩
theorem wdn_bit {s i : Nat} : (wdn K n s).testBit i = true ↔ s.testBit i = true ∨ ∃ b, b < n ∧ s.testBit b = true ∧ (K b).testBit i = true := by
  unfold wdn
  rw [spr_bit]
  constructor
  · rintro (h | ⟨b, h1, h2, h3⟩)
    · exact Or.inl h
    · exact Or.inr ⟨b, by omega, h3⟩
  · rintro (h | ⟨b, h1, h2⟩)
    · exact Or.inl h
    · exact Or.inr ⟨b, by omega, by omega, h2⟩
def sb (a b : Nat) : Prop := ∀ i, a.testBit i = true → b.testBit i = true
theorem sb_and {a b : Nat} (h : sb a b) : a &&& b = a := by
  apply Nat.eq_of_testBit_eq
  intro i
  rw [Nat.testBit_and]
  cases e : a.testBit i with
  | false => simp
  | true => rw [h i e]; rfl
theorem sb_eq {a b : Nat} (h : sb a b) (h' : sb b a) : a = b := by
  apply Nat.eq_of_testBit_eq
  intro i
  rw [Bool.eq_iff_iff]
  exact ⟨h i, h' i⟩
theorem wdn_sb (s : Nat) : sb s (wdn K n s) := fun i h => wdn_bit.mpr (Or.inl h)
theorem lt_bits {a n : Nat} (h : ∀ i, a.testBit i = true → i < n) : a < 2 ^ n := by
  refine Nat.lt_pow_two_of_testBit _ (fun i hi => ?_)
  cases e : a.testBit i with
  | false => rfl
  | true =>
    have := h i e
    omega
theorem wdn_lt2 (hK : ∀ b, b < n → K b < 2 ^ n) {s : Nat} (hs : s < 2 ^ n) : wdn K n s < 2 ^ n := by
  refine lt_bits (fun i h => ?_)
  rcases wdn_bit.mp h with q | ⟨b, hb, -, q⟩
  · exact bit_n hs q
  · exact bit_n (hK b hb) q
theorem full_card {n s : Nat} (hn : n ≤ 6) (hs : s < 2 ^ n) (hc : n ≤ card s) : s = 2 ^ n - 1 := by
  have key : ∀ n : Nat, n < 7 → ∀ s : Nat, s < 2 ^ n → n ≤ card s → s = 2 ^ n - 1 := by decide +kernel
  exact key n (by omega) s hs hc
theorem card_p2 {b : Nat} (hb : b < 6) : card (2 ^ b) = 1 := by
  have key : ∀ b : Nat, b < 6 → card (2 ^ b) = 1 := by decide +kernel
  exact key b hb
theorem full_fix (hn : n ≤ 6) (hK : ∀ b, b < n → K b < 2 ^ n) {s : Nat} (hs : s < 2 ^ n) (hc : n ≤ card s) : wdn K n s = s := by
  have e := full_card hn hs hc
  have hw := wdn_lt2 hK hs
  refine (sb_eq (wdn_sb s) (fun i h => ?_)).symm
  rw [e, Nat.testBit_two_pow_sub_one]
  exact decide_eq_true (bit_n hw h)
theorem card_grow (hn : n ≤ 6) (hK : ∀ b, b < n → K b < 2 ^ n) {s : Nat} (hs : s < 2 ^ n) (hne : ¬ wdn K n s = s) : card s < card (wdn K n s) := by
  have h64 := pw64 hn
  have hw := wdn_lt2 hK hs
  exact card_lt (by omega) (by omega) (sb_and (wdn_sb s)) (fun e => hne e.symm)
theorem btw_fix {S : Nat → Nat} {o s : Nat} (hS : S s = s) (ho : ¬ s.testBit o = true) : ∀ (m k : Nat), sp_btw S o m k s = none
  | 0, _ => rfl
  | m + 1, k => by
    show (if s.testBit o = true then some k else sp_btw S o m (k + 1) (S s)) = none
    rw [if_neg ho, hS, btw_fix hS ho m (k + 1)]
theorem btw_more (hn : n ≤ 6) (hK : ∀ b, b < n → K b < 2 ^ n) {o j : Nat} : ∀ (m k s : Nat), n ≤ card s + m → s < 2 ^ n → sp_btw (wdn K n) o (m + 1 + j) k s = sp_btw (wdn K n) o (m + 1) k s
  | 0, k, s, hc, hs => by
    have e := full_fix hn hK hs (by omega)
    rw [show 0 + 1 + j = j + 1 by omega]
    show (if s.testBit o = true then some k else sp_btw (wdn K n) o j (k + 1) (wdn K n s)) = (if s.testBit o = true then some k else sp_btw (wdn K n) o 0 (k + 1) (wdn K n s))
    by_cases ho : s.testBit o = true
    · rw [if_pos ho, if_pos ho]
    · rw [if_neg ho, if_neg ho, e, btw_fix e ho, btw_fix e ho]
  | m + 1, k, s, hc, hs => by
    rw [show m + 1 + 1 + j = m + 1 + j + 1 by omega]
    show (if s.testBit o = true then some k else sp_btw (wdn K n) o (m + 1 + j) (k + 1) (wdn K n s)) = (if s.testBit o = true then some k else sp_btw (wdn K n) o (m + 1) (k + 1) (wdn K n s))
    by_cases ho : s.testBit o = true
    · rw [if_pos ho, if_pos ho]
    · rw [if_neg ho, if_neg ho]
      by_cases e : wdn K n s = s
      · rw [e, btw_fix e ho, btw_fix e ho]
      · have := card_grow hn hK hs e
        exact btw_more hn hK m (k + 1) _ (by omega) (wdn_lt2 hK hs)
theorem btc_btw {W : Nat → Nat} {o : Nat} : ∀ (m k s : Nat), sp_btc W o m k s = sp_btw W o m k (W s)
  | 0, _, _ => rfl
  | m + 1, k, s => by
    show (if (W s).testBit o = true then some k else sp_btc W o m (k + 1) (W s)) = (if (W s).testBit o = true then some k else sp_btw W o m (k + 1) (W (W s)))
    rw [btc_btw m (k + 1) (W s)]
theorem rk_lt2 {ρ b : Nat} : rk I n ρ b < 2 ^ n := by
  refine lt_bits (fun i h => ?_)
  unfold rk at h
  rw [sp_set_bit, Bool.and_eq_true] at h
  exact of_decide_eq_true h.1
theorem iv_btw (h : ivB I t n s m) {b o : Nat} (hb : b < n) : oI (sp_btw (rsp I n) o 6 0 (rsp I n (2 ^ b))) = oI (sp_btc (wdn (rk I n 49) n) o n 0 (2 ^ b)) := by
  have h6 := iv_n6 h
  have hK : ∀ b, b < n → rk I n 49 b < 2 ^ n := fun b _ => rk_lt2
  have hs : 2 ^ b < 2 ^ n := Nat.pow_lt_pow_right (by omega) hb
  have hc : 1 ≤ card (wdn (rk I n 49) n (2 ^ b)) := by
    by_cases e : wdn (rk I n 49) n (2 ^ b) = 2 ^ b
    · rw [e, card_p2 (by omega)]
      exact Nat.le_refl _
    · have := card_grow h6 hK hs e
      omega
  have e := btw_more h6 hK (o := o) (j := 6 - n) (n - 1) 0 (wdn (rk I n 49) n (2 ^ b)) (by omega) (wdn_lt2 hK hs)
  rw [show n - 1 + 1 + (6 - n) = 6 by omega, show n - 1 + 1 = n by omega] at e
  rw [btc_btw]
  exact congrArg oI e
/-! circles -/
theorem it_fix {F : Nat → Nat} {s : Nat} (h : F s = s) : ∀ (m k : Nat), fo (fun _ s => F s) m k s = s
  | 0, _ => rfl
  | m + 1, k => by
    show fo (fun _ s => F s) m (k + 1) (F s) = s
    rw [h]
    exact it_fix h m (k + 1)
theorem it_more (hn : n ≤ 6) (hK : ∀ b, b < n → K b < 2 ^ n) : ∀ (m j k k' s : Nat), n ≤ card s + m → s < 2 ^ n → fo (fun _ s => wdn K n s) (m + j) k s = fo (fun _ s => wdn K n s) m k' s ∧ wdn K n (fo (fun _ s => wdn K n s) m k' s) = fo (fun _ s => wdn K n s) m k' s
  | 0, j, k, k', s, hc, hs => by
    have e := full_fix hn hK hs (by omega)
    exact ⟨it_fix e _ _, e⟩
  | m + 1, j, k, k', s, hc, hs => by
    rw [show m + 1 + j = m + j + 1 by omega]
    show fo (fun _ s => wdn K n s) (m + j) (k + 1) (wdn K n s) = fo (fun _ s => wdn K n s) m (k' + 1) (wdn K n s) ∧ wdn K n (fo (fun _ s => wdn K n s) m (k' + 1) (wdn K n s)) = fo (fun _ s => wdn K n s) m (k' + 1) (wdn K n s)
    by_cases e : wdn K n s = s
    · rw [e, it_fix e, it_fix e]
      exact ⟨rfl, e⟩
    · have := card_grow hn hK hs e
      exact it_more hn hK m j (k + 1) (k' + 1) _ (by omega) (wdn_lt2 hK hs)
theorem it_sb {z : Nat} (hz : wdn K n z = z) : ∀ (m k s : Nat), sb s z → sb (fo (fun _ s => wdn K n s) m k s) z
  | 0, _, _, h => h
  | m + 1, k, s, h => by
    show sb (fo (fun _ s => wdn K n s) m (k + 1) (wdn K n s)) z
    refine it_sb hz m (k + 1) _ (fun i hi => ?_)
    rcases wdn_bit.mp hi with q | ⟨b, hb, q1, q2⟩
    · exact h i q
    · rw [← hz]
      exact wdn_bit.mpr (Or.inr ⟨b, hb, h b q1, q2⟩)
theorem it_up : ∀ (m k s : Nat), sb s (fo (fun _ s => wdn K n s) m k s)
  | 0, _, _ => fun _ h => h
  | m + 1, k, s => fun i h => by
    show (fo (fun _ s => wdn K n s) m (k + 1) (wdn K n s)).testBit i = true
    exact it_up m (k + 1) _ i (wdn_sb s i h)
theorem cir_cic {C : Nat → Nat} (hC : ∀ b, b < n → wdn K n (C b) = C b) (hM : ∀ b z, b < n → wdn K n z = z → z.testBit b = true → sb (C b) z) : ∀ (m k : Nat) (p : Nat × Nat), k + m = n → wdn K n p.2 = p.2 → fo (sp_cir C) m k p = fo (sp_cic C) m k p
  | 0, _, _, _, _ => rfl
  | m + 1, k, p, hk, hz => by
    have e : sp_cir C k p = sp_cic C k p := by
      unfold sp_cir sp_cic
      by_cases q : p.2.testBit k = true
      · rw [if_pos q, if_pos q]
        have : p.2 ||| C k = p.2 := by
          refine sb_eq (fun i hi => ?_) (fun i hi => by rw [Nat.testBit_or, hi, Bool.true_or])
          rw [Nat.testBit_or, Bool.or_eq_true] at hi
          rcases hi with z | z
          · exact z
          · exact hM k p.2 (by omega) hz q i z
        rw [this]
      · rw [if_neg q, if_neg q]
    rw [fo, fo, e]
    refine cir_cic hC hM m (k + 1) _ (by omega) ?_
    unfold sp_cic
    by_cases q : p.2.testBit k = true
    · rw [if_pos q]
      exact hz
    · rw [if_neg q]
      show wdn K n (p.2 ||| C k) = p.2 ||| C k
      refine (sb_eq (wdn_sb _) (fun i hi => ?_)).symm
      rcases wdn_bit.mp hi with z | ⟨b, hb, z1, z2⟩
      · exact z
      · rw [Nat.testBit_or, Bool.or_eq_true] at z1 ⊢
        rcases z1 with z1 | z1
        · left
          rw [← hz]
          exact wdn_bit.mpr (Or.inr ⟨b, hb, z1, z2⟩)
        · right
          rw [← hC k (by omega)]
          exact wdn_bit.mpr (Or.inr ⟨b, hb, z1, z2⟩)
theorem iv_cir (h : ivB I t n s m) : nI (fo (sp_cir (rci I n)) n 0 (0, 0)).1 = nI (fo (sp_cic (cci (rk I n 49) n)) n 0 (0, 0)).1 := by
  have h6 := iv_n6 h
  have hK : ∀ b, b < n → rk I n 49 b < 2 ^ n := fun b _ => rk_lt2
  have hf : ∀ b, b < n → rci I n b = cci (rk I n 49) n b ∧ wdn (rk I n 49) n (cci (rk I n 49) n b) = cci (rk I n 49) n b := fun b hb => by
    have q := it_more h6 hK n (6 - n) 0 0 (2 ^ b) (by omega) (Nat.pow_lt_pow_right (by omega) hb)
    rw [show n + (6 - n) = 6 by omega] at q
    exact q
  have e1 : fo (sp_cir (rci I n)) n 0 (0, 0) = fo (sp_cir (cci (rk I n 49) n)) n 0 (0, 0) := by
    refine fo_congr n 0 _ (fun b _ hb p => ?_)
    unfold sp_cir
    rw [(hf b (by omega)).1]
  have hM : ∀ b z, b < n → wdn (rk I n 49) n z = z → z.testBit b = true → sb (cci (rk I n 49) n b) z := by
    intro b z hb hz hbt
    refine it_sb hz n 0 (2 ^ b) (fun i hi => ?_)
    rw [Nat.testBit_two_pow] at hi
    rw [← of_decide_eq_true hi]
    exact hbt
  have h00 : wdn (rk I n 49) n ((0, 0) : Nat × Nat).2 = ((0, 0) : Nat × Nat).2 := by
    refine (sb_eq (wdn_sb _) (fun i hi => ?_)).symm
    rcases wdn_bit.mp hi with z | ⟨b, hb, z1, -⟩
    · exact z
    · rw [show ((0, 0) : Nat × Nat).2 = 0 from rfl, Nat.zero_testBit] at z1
      cases z1
  rw [e1, cir_cic (K := rk I n 49) (fun b hb => (hf b hb).2) hM n 0 (0, 0) (by omega) h00]
end Grf
