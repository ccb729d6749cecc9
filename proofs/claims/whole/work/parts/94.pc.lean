section Pc
variable {g : cp_G} {d : Nat} {sh : cp_H} {I : cp_I} {J : cp_J} {P : cp_P} {Q : cp_QT} {t u r x n c : Nat}
/-! how many pairs were introduced: bits at the places of pairs -/
theorem bc_nbc31 {f : Nat} (hf : f < 2 ^ 31) : bc (nI f) = nI (nbc f) := by
  have s1 : f >>> 1 ≤ f := Nat.shiftRight_le f 1
  have s2 : (f >>> 1) &&& 1431655765 ≤ f >>> 1 := Nat.and_le_left
  have e1 : bc1 (nI f) = nI (nb1 f) := by
    unfold bc1 nb1
    rw [show (1 : Int32) = nI 1 from rfl, us_nI (by omega) (by omega), show (1431655765 : Int32) = nI 1431655765 from rfl, and_g, pk_sub (by omega)]
  have b1 : nb1 f < 2 ^ 31 := by unfold nb1; omega
  have e2 : bc2 (nI (nb1 f)) = nI (nb2 (nb1 f)) := by
    unfold bc2 nb2
    rw [show (2 : Int32) = nI 2 from rfl, us_nI (by omega) (by omega), show (858993459 : Int32) = nI 858993459 from rfl, and_g, and_g, nI_add]
  have b2 : nb2 (nb1 f) < 2 ^ 31 := by
    unfold nb2
    have h1 : nb1 f &&& 858993459 ≤ 858993459 := Nat.and_le_right
    have h2 : (nb1 f >>> 2) &&& 858993459 ≤ 858993459 := Nat.and_le_right
    omega
  have e3 : bc3 (nI (nb2 (nb1 f))) = nI (nb3 (nb2 (nb1 f))) := by
    unfold bc3 nb3
    rw [show (4 : Int32) = nI 4 from rfl, us_nI (by omega) (by omega), nI_add, show (252645135 : Int32) = nI 252645135 from rfl, and_g]
  have b3 : nb3 (nb2 (nb1 f)) ≤ 252645135 := Nat.and_le_right
  have e4 : bc4 (nI (nb3 (nb2 (nb1 f)))) = nI (nb4 (nb3 (nb2 (nb1 f)))) := by
    unfold bc4 nb4
    rw [show (8 : Int32) = nI 8 from rfl, us_nI (by omega) (by omega), nI_add]
  have b4 : nb4 (nb3 (nb2 (nb1 f))) < 2 ^ 31 := by
    unfold nb4
    have h3 : nb3 (nb2 (nb1 f)) >>> 8 ≤ nb3 (nb2 (nb1 f)) := Nat.shiftRight_le _ 8
    omega
  have e5 : bc5 (nI (nb4 (nb3 (nb2 (nb1 f))))) = nI (nb5 (nb4 (nb3 (nb2 (nb1 f))))) := by
    unfold bc5 nb5
    rw [show (16 : Int32) = nI 16 from rfl, us_nI (by omega) (by omega), nI_add]
  unfold bc nbc
  rw [e1, e2, e3, e4, e5, show (63 : Int32) = nI 63 from rfl, and_g]
def pch : Nat → Nat → Nat → Nat → Bool
  | 0, _, x, c => Nat.beq (nbc x) c
  | m + 1, k, x, c => pch m (k + 1) x c && (bif Nat.blt (k / 6) (k % 6) then pch m (k + 1) (x + 2 ^ k) (c + 1) else true)
theorem pch_ok : pch 30 0 0 0 = true := by decide +kernel
theorem pch_f {f : Nat → Bool} : ∀ (m k x c : Nat), pch m k x c = true → (∀ i, k ≤ i → i < k + m → f i = true → i / 6 < i % 6) → nbc (fo (fun i z => if f i = true then z + 2 ^ i else z) m k x) = fo (fun i z => if f i = true then z + 1 else z) m k c
  | 0, _, x, c, h, _ => Nat.eq_of_beq_eq_true h
  | m + 1, k, x, c, h, hf => by
    have h' : (pch m (k + 1) x c && (bif Nat.blt (k / 6) (k % 6) then pch m (k + 1) (x + 2 ^ k) (c + 1) else true)) = true := h
    rw [Bool.and_eq_true] at h'
    obtain ⟨h1, h2⟩ := h'
    show nbc (fo (fun i z => if f i = true then z + 2 ^ i else z) m (k + 1) (if f k = true then x + 2 ^ k else x)) = fo (fun i z => if f i = true then z + 1 else z) m (k + 1) (if f k = true then c + 1 else c)
    by_cases e : f k = true
    · have hk := hf k (by omega) (by omega) e
      have hb : Nat.blt (k / 6) (k % 6) = true := Nat.ble_eq_true_of_le hk
      rw [hb] at h2
      rw [if_pos e, if_pos e]
      exact pch_f m (k + 1) _ _ h2 (fun i i1 i2 i3 => hf i (by omega) (by omega) i3)
    · rw [if_neg e, if_neg e]
      exact pch_f m (k + 1) _ _ h1 (fun i i1 i2 i3 => hf i (by omega) (by omega) i3)
theorem bits_mod (m : Nat) : ∀ n, fo (fun i z => if m.testBit i = true then z + 2 ^ i else z) n 0 0 = m % 2 ^ n
  | 0 => by rw [Nat.pow_zero, Nat.mod_one]; rfl
  | n + 1 => by
    rw [fo_s, bits_mod m n, Nat.zero_add, Nat.mod_pow_succ, Nat.testBit_eq_decide_div_mod_eq]
    by_cases e : m / 2 ^ n % 2 = 1
    · rw [if_pos (decide_eq_true e), e, Nat.mul_one]
    · have e0 : m / 2 ^ n % 2 = 0 := by omega
      rw [if_neg (by simp [e]), e0, Nat.mul_zero, Nat.add_zero]
theorem bc_met {m : Nat} (h : mOK m) : bc (nI m) = nI (pc30 m) := by
  have hl := mOK_lt h
  rw [bc_nbc31 (by omega)]
  have e := pch_f (f := fun i => m.testBit i) 30 0 0 0 pch_ok (fun i _ _ hi => (h i hi).2)
  rw [bits_mod m 30, Nat.mod_eq_of_lt hl] at e
  rw [e]
  rfl
theorem pc_add {m p : Nat} (hp : p < 30) (h : m.testBit p = false) : pc30 (m ||| 2 ^ p) = pc30 m + 1 := by
  refine cnt_one (p := fun k => m.testBit k) (i := p) h ?_ (fun j hj => ?_) 30 0 0 (by omega) (by omega)
  · show (m ||| 2 ^ p).testBit p = true
    rw [Nat.testBit_or, Nat.testBit_two_pow_self, Bool.or_true]
  · show m.testBit j = (m ||| 2 ^ p).testBit j
    rw [Nat.testBit_or, Nat.testBit_two_pow, decide_eq_false (fun z => hj z.symm), Bool.or_false]
theorem mOK_add {m a b : Nat} (h : mOK m) (ha : a < 6) (hb : b < 6) (hab : a ≠ b) : mOK (m ||| 2 ^ pbk a b) := by
  intro i hi
  rw [Nat.testBit_or, Bool.or_eq_true] at hi
  rcases hi with q | q
  · exact h i q
  · rw [Nat.testBit_two_pow] at q
    rw [← of_decide_eq_true q]
    exact pbk_ok ha hb hab
end Pc
