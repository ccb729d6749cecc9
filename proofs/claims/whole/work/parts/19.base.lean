/-- a counted loop: from k on, m times -/
def fo {α : Type} (f : Nat → α → α) : Nat → Nat → α → α
  | 0, _, a => a
  | m + 1, k, a => fo f m (k + 1) (f k a)
theorem nI_and31 {k : Nat} (h : k < 32) : nI k &&& 31 = nI k := by
  have key : ∀ k : Nat, k < 32 → nI k &&& 31 = nI k := by decide +kernel
  exact key k h
theorem ncl {k : Nat} (h : k < 1000) : (nI k).toNatClampNeg = k := nI_clamp (by omega)
theorem vin {k N : Nat} (h : k < N) (hN : N < 1000) : vp_in (nI k) N := vp_in_nI h (by omega)
/-! sets of bathers: numbers below 64 -/
theorem hb_iff {s k : Nat} (hs : s < 64) (hk : k < 8) : ((nI s >>> (nI k &&& 31)) &&& 1 = 1) = (s.testBit k = true) := by
  have key : ∀ s : Nat, s < 64 → ∀ k : Nat, k < 8 → (decide ((nI s >>> (nI k &&& 31)) &&& 1 = 1) = s.testBit k) := by decide +kernel
  have := key s hs k hk
  rw [← this]
  exact (decide_eq_true_eq).symm
theorem hb_val {s k : Nat} (hs : s < 64) (hk : k < 8) : (nI s >>> (nI k &&& 31)) &&& 1 = if s.testBit k = true then 1 else 0 := by
  have key : ∀ s : Nat, s < 64 → ∀ k : Nat, k < 8 → (nI s >>> (nI k &&& 31)) &&& 1 = if s.testBit k = true then 1 else 0 := by decide +kernel
  exact key s hs k hk
theorem sh1 {k : Nat} (hk : k < 8) : (1 : Int32) <<< (nI k &&& 31) = nI (2 ^ k) := by
  have key : ∀ k : Nat, k < 8 → (1 : Int32) <<< (nI k &&& 31) = nI (2 ^ k) := by decide +kernel
  exact key k hk
theorem or_nI {a b : Nat} (ha : a < 64) (hb : b < 64) : nI a ||| nI b = nI (a ||| b) := by
  have key : ∀ a : Nat, a < 64 → ∀ b : Nat, b < 64 → nI a ||| nI b = nI (a ||| b) := by decide +kernel
  exact key a ha b hb
theorem and_nI {a b : Nat} (ha : a < 64) (hb : b < 64) : nI a &&& nI b = nI (a &&& b) := by
  have key : ∀ a : Nat, a < 64 → ∀ b : Nat, b < 64 → nI a &&& nI b = nI (a &&& b) := by decide +kernel
  exact key a ha b hb
theorem xor_nI {a b : Nat} (ha : a < 64) (hb : b < 64) : nI a ^^^ nI b = nI (a ^^^ b) := by
  have key : ∀ a : Nat, a < 64 → ∀ b : Nat, b < 64 → nI a ^^^ nI b = nI (a ^^^ b) := by decide +kernel
  exact key a ha b hb
/-- the set of those of n who have a property -/
def sp_set (n : Nat) (p : Nat → Bool) : Nat := fo (fun b z => if p b = true then z ||| 2 ^ b else z) n 0 0
theorem or_lt64 {a b : Nat} (ha : a < 64) (hb : b < 64) : a ||| b < 64 := Nat.or_lt_two_pow (n := 6) ha hb
theorem pow_lt64 {b : Nat} (hb : b < 6) : 2 ^ b < 64 := by
  have key : ∀ b : Nat, b < 6 → 2 ^ b < 64 := by decide
  exact key b hb
theorem fo_set_bit (p : Nat → Bool) : ∀ (m k z i : Nat), (fo (fun b z => if p b = true then z ||| 2 ^ b else z) m k z).testBit i = (z.testBit i || (decide (k ≤ i ∧ i < k + m) && p i))
  | 0, k, z, i => by
    simp [fo]
    intro h1 h2
    omega
  | m + 1, k, z, i => by
    rw [fo, fo_set_bit p m (k + 1)]
    by_cases hp : p k = true
    · rw [if_pos hp, Nat.testBit_or, Nat.testBit_two_pow]
      by_cases hi : k = i
      · subst hi
        simp [hp]
      · have e : (k + 1 ≤ i ∧ i < k + 1 + m) ↔ (k ≤ i ∧ i < k + (m + 1)) := by omega
        simp [hi, e]
    · rw [if_neg hp]
      by_cases hi : k = i
      · subst hi
        simp [hp]
      · have e : (k + 1 ≤ i ∧ i < k + 1 + m) ↔ (k ≤ i ∧ i < k + (m + 1)) := by omega
        simp [e]
theorem sp_set_bit (n : Nat) (p : Nat → Bool) (i : Nat) : (sp_set n p).testBit i = (decide (i < n) && p i) := by
  unfold sp_set
  rw [fo_set_bit]
  simp
theorem sp_set_lt {n : Nat} (hn : n ≤ 6) (p : Nat → Bool) : sp_set n p < 64 := by
  refine Nat.lt_pow_two_of_testBit (n := 6) _ (fun i hi => ?_)
  rw [sp_set_bit]
  have : ¬ i < n := by omega
  simp [this]
/-! truth values -/
theorem b01_0 {c : Prop} {dc : Decidable c} : ((if c then (1 : Int32) else 0) = 0) = ¬ c := by
  by_cases h : c
  · simp [h]
  · simp [h]
theorem b01_1 {c : Prop} {dc : Decidable c} : ((if c then (1 : Int32) else 0) = 1) = c := by
  by_cases h : c
  · simp [h]
  · simp [h]
theorem b01_01 {c : Prop} {dc : Decidable c} : ((if c then (1 : Int32) else 0) = 0 ∨ (if c then (1 : Int32) else 0) = 1) = True := by
  by_cases h : c
  · simp [h]
  · simp [h]
theorem b01_n {c : Prop} : (¬ c ∨ c) = True := by
  by_cases h : c
  · simp [h]
  · simp [h]
theorem cp_uu {α : Type} (f : Nat → Nat → α) (a k : Nat) (x y : α) : cp_u (cp_u f a k x) a k y = cp_u f a k y := by
  funext b j
  by_cases h : b = a ∧ j = k <;> simp [cp_u, h]
theorem lt_m2 : ((-2 : Int32) < 0) = True := by decide +kernel
theorem lt_m1 : ((-1 : Int32) < 0) = True := by decide +kernel
theorem le_m2 : ((0 : Int32) ≤ -2) = False := by decide +kernel
theorem le_m1 : ((0 : Int32) ≤ -1) = False := by decide +kernel
theorem lt_nI {k : Nat} (h : k < 1000) : (nI k < 0) = False := eq_false (nI_pos (by omega))
theorem eqN {a b : Nat} (ha : a < 1000) (hb : b < 1000) : (nI a = nI b) = (a = b) := propext (nI_eq (by omega) (by omega))
theorem leN {a b : Nat} (ha : a < 1000) (hb : b < 1000) : (nI a ≤ nI b) = (a ≤ b) := propext (nI_leI (by omega) (by omega))
theorem ltN {a b : Nat} (ha : a < 1000) (hb : b < 1000) : (nI a < nI b) = (a < b) := propext (nI_ltI (by omega) (by omega))
/-! the maths of a plunge -/
abbrev sp_T : Type := Nat → Nat → Int32
def sp_pr (c : Int32) (ti : sp_T) (a b : Nat) : Int32 := if ti a b = 0 then -c else ti a b
def sp_row (c : Int32) (ti : sp_T) (s a : Nat) : Nat → Int32 → Int32 := fun b z => if s.testBit a = true ∧ s.testBit b = true then z + sp_pr c ti a b else z
def sp_sum (n : Nat) (c : Int32) (ti : sp_T) (s : Nat) (w : Int32) : Int32 := fo (fun a z => fo (sp_row c ti s a) a 0 z) n 0 w
def sp_cl (z : Int32) : Int32 := if z < 0 then 0 else if 200 < z then 200 else z
def sp_warm (n : Nat) (w c : Int32) (ti : sp_T) (s : Nat) : Int32 := sp_cl (sp_sum n c ti s w)
def sp_need (k b : Int32) : Int32 := if k = 1 then b + 5 else if k = 2 then (if 5 < b then b - 5 else 0) else b
def sp_bear (n : Nat) (nd : Nat → Int32) (w : Int32) (s : Nat) : Nat := sp_set n (fun b => s.testBit b && decide (nd b ≤ w))
/-! the reference's rows -/
def rn (I : cp_I) (b : Nat) : Int32 := sp_need (I 47 (10 + 2 * b)) (I 47 (11 + 2 * b))
def rt (I : cp_I) (ρ : Nat) : sp_T := fun a b => I ρ (6 * a + b)
