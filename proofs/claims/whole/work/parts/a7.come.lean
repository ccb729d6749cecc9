section Come
variable {g : cp_G} {d : Nat} {I M N : cp_I} {J : cp_J} {Q : cp_QT} {t u r x n s m : Nat} {S S' : Nat → Bool} {set : Nat}
/-! in what order they come in -/
theorem sub63 {a b : Nat} (ha : a < 64) (hb : b < 64) : (a &&& (63 - b) = 0) = (a &&& b = a) := by
  have key : ∀ a : Nat, a < 64 → ∀ b : Nat, b < 64 → (decide (a &&& (63 - b) = 0) = decide (a &&& b = a)) := by decide +kernel
  have := key a ha b hb
  rw [decide_eq_decide] at this
  exact propext this
theorem out_bit {a b i : Nat} (hb : b < 64) (hi : i < 6) : (a &&& (63 - b)).testBit i = (a.testBit i && !b.testBit i) := by
  rw [Nat.testBit_and]
  have key : ∀ b : Nat, b < 64 → ∀ i : Nat, i < 6 → (63 - b).testBit i = !b.testBit i := by decide +kernel
  rw [key b hb i hi]
def cnd (S : Nat → Bool) (set σ P : Nat) : Bool := decide (P &&& (63 - set) = 0) && (S P && (decide (P = set) || (sp_nc σ set P 6 0).isSome))
theorem sts_hi : ∀ (m σ P : Nat), m ≤ P → (sp_sts S set m σ).testBit P = σ.testBit P
  | 0, _, _, _ => rfl
  | m + 1, σ, P, h => by
    show (sp_sts S set m (if cnd S set σ m = true then σ ||| 2 ^ m else σ)).testBit P = σ.testBit P
    rw [sts_hi m _ P (by omega)]
    by_cases e : cnd S set σ m = true
    · rw [if_pos e, Nat.testBit_or, Nat.testBit_two_pow, decide_eq_false (show ¬ m = P by omega), Bool.or_false]
    · rw [if_neg e]
theorem or_gt {P b : Nat} (h : P.testBit b = false) : P < P ||| 2 ^ b := by
  have h1 : P ≤ P ||| 2 ^ b := Nat.left_le_or
  have h2 : P ≠ P ||| 2 ^ b := fun e => by
    have : (P ||| 2 ^ b).testBit b = true := by rw [Nat.testBit_or, Nat.testBit_two_pow_self, Bool.or_true]
    rw [← e, h] at this
    cases this
  omega
theorem nc_cong {σ σ' P : Nat} (hP : P < 64) (h : ∀ Q, P < Q → σ.testBit Q = σ'.testBit Q) : sp_nc σ set P 6 0 = sp_nc σ' set P 6 0 := by
  unfold sp_nc
  refine sp_fst_congr 6 0 (fun b _ hb => ?_)
  rw [out_bit hP (by omega)]
  by_cases e : P.testBit b = true
  · rw [e]
    simp
  · rw [h _ (or_gt (by simpa using e))]
theorem sts_lo : ∀ (m σ P : Nat), m ≤ 64 → P < m → (∀ j, j < m → σ.testBit j = false) → (sp_sts S set m σ).testBit P = cnd S set (sp_sts S set m σ) P
  | 0, _, _, _, h, _ => by omega
  | m + 1, σ, P, hm, h, h0 => by
    show (sp_sts S set m (if cnd S set σ m = true then σ ||| 2 ^ m else σ)).testBit P = cnd S set (sp_sts S set m (if cnd S set σ m = true then σ ||| 2 ^ m else σ)) P
    have hb : ∀ j, ¬ j = m → (if cnd S set σ m = true then σ ||| 2 ^ m else σ).testBit j = σ.testBit j := fun j hj => by
      by_cases e : cnd S set σ m = true
      · rw [if_pos e, Nat.testBit_or, Nat.testBit_two_pow, decide_eq_false (show ¬ m = j by omega), Bool.or_false]
      · rw [if_neg e]
    by_cases e : P = m
    · subst e
      rw [sts_hi P _ P (Nat.le_refl _)]
      have ec : cnd S set (sp_sts S set P (if cnd S set σ P = true then σ ||| 2 ^ P else σ)) P = cnd S set σ P := by
        unfold cnd
        rw [nc_cong (σ' := σ) (by omega) (fun Q hQ => by
          show (sp_sts S set P (if cnd S set σ P = true then σ ||| 2 ^ P else σ)).testBit Q = σ.testBit Q
          rw [sts_hi P _ Q (by omega), hb Q (by omega)])]
      rw [ec]
      by_cases e2 : cnd S set σ P = true
      · rw [if_pos e2, e2, Nat.testBit_or, Nat.testBit_two_pow_self, Bool.or_true]
      · rw [if_neg e2, h0 P (by omega)]
        simpa using e2
    · exact sts_lo m _ P (by omega) (by omega) (fun j hj => by rw [hb j (by omega)]; exact h0 j (by omega))
theorem sts_A (hset : set < 64) {P : Nat} (hP : P < 64) : (sp_sts S set (set + 1) 0).testBit P = cnd S set (sp_sts S set (set + 1) 0) P := by
  by_cases c : P < set + 1
  · exact sts_lo (set + 1) 0 P (by omega) c (fun j _ => Nat.zero_testBit j)
  · rw [sts_hi (set + 1) 0 P (by omega), Nat.zero_testBit]
    unfold cnd
    rw [decide_eq_false, Bool.false_and]
    rw [sub63 hP hset]
    intro e
    have : P &&& set ≤ set := Nat.and_le_right
    omega
theorem lo_fst {σ : Type} {f : Nat → σ → Bool × σ} {p : Nat → Bool} {V : σ → Prop} : ∀ (m k : Nat) (a : σ), (∀ b a, b < k + m → V a → (f b a).1 = p b) → (∀ b a, b < k + m → V a → V (f b a).2) → V a → (lo f m k a).1 = (sp_fst p m k).isSome ∧ V (lo f m k a).2 ∧ ∀ b, sp_fst p m k = some b → ∃ a', V a' ∧ lo f m k a = f b a'
  | 0, k, a, _, _, h => ⟨rfl, h, fun b hb => by cases hb⟩
  | m + 1, k, a, h1, h2, h => by
    have e1 := h1 k a (by omega) h
    show (if (f k a).1 = true then f k a else lo f m (k + 1) (f k a).2).1 = (if p k = true then some k else sp_fst p m (k + 1)).isSome ∧ V (if (f k a).1 = true then f k a else lo f m (k + 1) (f k a).2).2 ∧ ∀ b, (if p k = true then some k else sp_fst p m (k + 1)) = some b → ∃ a', V a' ∧ (if (f k a).1 = true then f k a else lo f m (k + 1) (f k a).2) = f b a'
    by_cases e : p k = true
    · rw [if_pos (by rw [e1]; exact e), if_pos e]
      refine ⟨by rw [e1, e]; rfl, h2 k a (by omega) h, fun b hb => ?_⟩
      cases hb
      exact ⟨a, h, rfl⟩
    · rw [if_neg (by rw [e1]; exact e), if_neg e]
      exact lo_fst m (k + 1) _ (fun b a hb => h1 b a (by omega)) (fun b a hb => h2 b a (by omega)) (h2 k a (by omega) h)
theorem fst_app {p : Nat → Bool} : ∀ (m m' k : Nat), (∀ j, k + m ≤ j → j < k + m + m' → p j = false) → sp_fst p (m + m') k = sp_fst p m k
  | 0, 0, _, _ => rfl
  | 0, m' + 1, k, h => by
    rw [Nat.zero_add]
    show (if p k = true then some k else sp_fst p m' (k + 1)) = none
    rw [h k (by omega) (by omega), if_neg Bool.false_ne_true]
    have := fst_app 0 m' (k + 1) (fun j h1 h2 => h j (by omega) (by omega))
    rw [Nat.zero_add] at this
    exact this
  | m + 1, m', k, h => by
    rw [show m + 1 + m' = (m + m') + 1 by omega]
    show (if p k = true then some k else sp_fst p (m + m') (k + 1)) = (if p k = true then some k else sp_fst p m (k + 1))
    rw [fst_app m m' (k + 1) (fun j h1 h2 => h j (by omega) (by omega))]
theorem fst_in {p : Nat → Bool} {b : Nat} : ∀ (m k : Nat), sp_fst p m k = some b → k ≤ b ∧ b < k + m ∧ p b = true
  | 0, _, h => by cases h
  | m + 1, k, h => by
    have h' : (if p k = true then some k else sp_fst p m (k + 1)) = some b := h
    by_cases e : p k = true
    · rw [if_pos e] at h'
      cases h'
      exact ⟨Nat.le_refl _, by omega, e⟩
    · rw [if_neg e] at h'
      have := fst_in m (k + 1) h'
      exact ⟨by omega, by omega, this.2.2⟩
theorem cm_ix {σ : Nat} : ∀ (j k k' : Nat) (q : Nat × Option Nat), fo (sp_cm σ set) j k q = fo (sp_cm σ set) j k' q
  | 0, _, _, _ => rfl
  | j + 1, k, k', q => by
    show fo (sp_cm σ set) j (k + 1) (sp_cm σ set k q) = fo (sp_cm σ set) j (k' + 1) (sp_cm σ set k' q)
    rw [cm_ix j (k + 1) (k' + 1)]
    rfl
theorem or_spec {σ : Nat} (hn : n ≤ 6) (hset : set < 2 ^ n) (hA : ∀ P, P < 64 → σ.testBit P = cnd S set σ P) (hS : ∀ P, P < 2 ^ n → S' P = S P) : ∀ (f come k : Nat) (O : Nat → Int32), come < 64 → come &&& set = come → k = card come → card set ≤ card come + f →
    (sp_or S' n set f come k O).1 = (decide (come = set) || (sp_nc σ set come 6 0).isSome) ∧ (∀ j, j < k → (sp_or S' n set f come k O).2 j = O j) ∧ ((sp_or S' n set f come k O).1 = true → ∀ j, k + j < card set → ∃ c, c < 6 ∧ (fo (sp_cm σ set) (j + 1) 0 (come, none)).2 = some c ∧ (sp_or S' n set f come k O).2 (k + j) = nI c)
  | 0, come, k, O, hc, hsub, hk, hf => by
    have h64 := pw64 hn
    have e : come = set := Classical.byContradiction fun q => by
      have := card_lt hc (show set < 64 by omega) hsub q
      omega
    subst e
    refine ⟨?_, fun _ _ => rfl, fun _ j hj => by omega⟩
    show decide (come = come) = _
    simp
  | f + 1, come, k, O, hc, hsub, hk, hf => by
    have h64 := pw64 hn
    by_cases e : come = set
    · subst e
      have eq : sp_or S' n come (f + 1) come k O = (true, O) := by
        rw [sp_or, if_pos rfl]
      rw [eq]
      exact ⟨by simp, fun _ _ => rfl, fun _ j hj => by omega⟩
    · have eq : sp_or S' n set (f + 1) come k O = lo (fun b O => if ((set &&& (63 - come)).testBit b && S' (come ||| 2 ^ b)) = true then sp_or S' n set f (come ||| 2 ^ b) (k + 1) (upd O k (nI b)) else (false, O)) n 0 O := by
        rw [sp_or, if_neg e]
      have hp : ∀ b a, b < 0 + n → (∀ j, j < k → a j = O j) → ((fun b O => if ((set &&& (63 - come)).testBit b && S' (come ||| 2 ^ b)) = true then sp_or S' n set f (come ||| 2 ^ b) (k + 1) (upd O k (nI b)) else (false, O)) b a).1 = ((set &&& (63 - come)).testBit b && σ.testBit (come ||| 2 ^ b)) := by
        intro b a hb ha
        show (if ((set &&& (63 - come)).testBit b && S' (come ||| 2 ^ b)) = true then sp_or S' n set f (come ||| 2 ^ b) (k + 1) (upd a k (nI b)) else (false, a)).1 = _
        by_cases e1 : (set &&& (63 - come)).testBit b = true
        · obtain ⟨c1, c2⟩ := card_or hc (show set < 64 by omega) (show b < 6 by omega) hsub e1
          have hlt : come ||| 2 ^ b < 64 := or_lt64 hc (pow_lt64 (by omega))
          have hle : come ||| 2 ^ b ≤ set := by rw [← c2]; exact Nat.and_le_right
          have hAb := hA _ hlt
          unfold cnd at hAb
          rw [decide_eq_true (show (come ||| 2 ^ b) &&& (63 - set) = 0 by rw [sub63 hlt (by omega)]; exact c2), Bool.true_and] at hAb
          rw [hAb, e1, Bool.true_and, hS _ (by omega), Bool.true_and]
          by_cases e2 : S (come ||| 2 ^ b) = true
          · rw [if_pos e2, e2, Bool.true_and]
            exact (or_spec hn hset hA hS f (come ||| 2 ^ b) (k + 1) _ hlt c2 (by omega) (by omega)).1
          · rw [if_neg e2]
            simp [e2]
        · rw [if_neg (by simp [e1])]
          simp [e1]
      have hv : ∀ b a, b < 0 + n → (∀ j, j < k → a j = O j) → ∀ j, j < k → ((fun b O => if ((set &&& (63 - come)).testBit b && S' (come ||| 2 ^ b)) = true then sp_or S' n set f (come ||| 2 ^ b) (k + 1) (upd O k (nI b)) else (false, O)) b a).2 j = O j := by
        intro b a hb ha j hj
        show (if ((set &&& (63 - come)).testBit b && S' (come ||| 2 ^ b)) = true then sp_or S' n set f (come ||| 2 ^ b) (k + 1) (upd a k (nI b)) else (false, a)).2 j = O j
        by_cases e1 : ((set &&& (63 - come)).testBit b && S' (come ||| 2 ^ b)) = true
        · rw [if_pos e1]
          rw [Bool.and_eq_true] at e1
          obtain ⟨c1, c2⟩ := card_or hc (show set < 64 by omega) (show b < 6 by omega) hsub e1.1
          rw [(or_spec hn hset hA hS f (come ||| 2 ^ b) (k + 1) _ (or_lt64 hc (pow_lt64 (by omega))) c2 (by omega) (by omega)).2.1 j (by omega), pk_un (by omega)]
          exact ha j hj
        · rw [if_neg e1]
          exact ha j hj
      obtain ⟨l1, l2, l3⟩ := lo_fst (V := fun a : Nat → Int32 => ∀ j, j < k → a j = O j) n 0 O hp hv (fun _ _ => rfl)
      have e6 : sp_nc σ set come 6 0 = sp_fst (fun b => (set &&& (63 - come)).testBit b && σ.testBit (come ||| 2 ^ b)) n 0 := by
        unfold sp_nc
        rw [show (6 : Nat) = n + (6 - n) by omega]
        refine fst_app n (6 - n) 0 (fun j h1 h2 => ?_)
        rw [out_bit hc (by omega)]
        have : set.testBit j = false := by
          cases q : set.testBit j with
          | false => rfl
          | true =>
            have := bit_n hset q
            omega
        rw [this]
        rfl
      rw [eq]
      refine ⟨?_, l2, fun ht j hj => ?_⟩
      · rw [l1, e6, decide_eq_false e, Bool.false_or]
      · rw [l1] at ht
        cases hb : sp_fst (fun b => (set &&& (63 - come)).testBit b && σ.testBit (come ||| 2 ^ b)) n 0 with
        | none => rw [hb] at ht; cases ht
        | some b =>
          obtain ⟨a', ha', el⟩ := l3 b hb
          obtain ⟨-, hbn, hpb⟩ := fst_in n 0 hb
          have hp' := hp b a' hbn ha'
          rw [hpb] at hp'
          have hcond : ((set &&& (63 - come)).testBit b && S' (come ||| 2 ^ b)) = true := Classical.byContradiction fun q => by
            have : (if ((set &&& (63 - come)).testBit b && S' (come ||| 2 ^ b)) = true then sp_or S' n set f (come ||| 2 ^ b) (k + 1) (upd a' k (nI b)) else (false, a')).1 = true := hp'
            rw [if_neg q] at this
            cases this
          have el' : lo (fun b O => if ((set &&& (63 - come)).testBit b && S' (come ||| 2 ^ b)) = true then sp_or S' n set f (come ||| 2 ^ b) (k + 1) (upd O k (nI b)) else (false, O)) n 0 O = sp_or S' n set f (come ||| 2 ^ b) (k + 1) (upd a' k (nI b)) := by
            rw [el]
            exact if_pos hcond
          have ht' : (sp_or S' n set f (come ||| 2 ^ b) (k + 1) (upd a' k (nI b))).1 = true := by
            have : (if ((set &&& (63 - come)).testBit b && S' (come ||| 2 ^ b)) = true then sp_or S' n set f (come ||| 2 ^ b) (k + 1) (upd a' k (nI b)) else (false, a')).1 = true := hp'
            rw [if_pos hcond] at this
            exact this
          rw [Bool.and_eq_true] at hcond
          obtain ⟨c1, c2⟩ := card_or hc (show set < 64 by omega) (show b < 6 by omega) hsub hcond.1
          obtain ⟨-, i2, i3⟩ := or_spec hn hset hA hS f (come ||| 2 ^ b) (k + 1) (upd a' k (nI b)) (or_lt64 hc (pow_lt64 (by omega))) c2 (by omega) (by omega)
          have hnc : sp_nc σ set come 6 0 = some b := by rw [e6]; exact hb
          have hcm : ∀ k o, sp_cm σ set k (come, o) = (come ||| 2 ^ b, some b) := fun k o => by
            unfold sp_cm
            simp only [hnc]
          rw [el']
          cases j with
          | zero =>
            refine ⟨b, by omega, ?_, ?_⟩
            · show (fo (sp_cm σ set) 0 1 (sp_cm σ set 0 (come, none))).2 = some b
              rw [hcm]
              rfl
            · show (sp_or S' n set f (come ||| 2 ^ b) (k + 1) (upd a' k (nI b))).2 k = nI b
              rw [i2 k (by omega), pk_us]
          | succ j =>
            obtain ⟨c, hc6, hc1, hc2⟩ := i3 ht' j (by omega)
            refine ⟨c, hc6, ?_, ?_⟩
            · rw [← hc1]
              show (fo (sp_cm σ set) (j + 1) 1 (sp_cm σ set 0 (come, none))).2 = (fo (sp_cm σ set) (j + 1) 0 (come ||| 2 ^ b, none)).2
              rw [hcm, cm_ix (j + 1) 1 0]
              rfl
            · rw [show k + (j + 1) = k + 1 + j by omega]
              exact hc2
theorem rs_0 {ρ : Nat} : rs I n ρ 0 = true := by
  unfold rs
  refine decide_eq_true ((rb_eq (Nat.two_pow_pos n)).mpr (fun b _ h => ?_))
  rw [Nat.zero_testBit] at h
  cases h
theorem iv_ro (h : ivB I t n s m) {z : Nat} (hz : z < 2 ^ n) : (ro I n z).1 = (cst I z).testBit 0 ∧ ((ro I n z).1 = true → ∀ j, j < card z → ∃ c, c < 6 ∧ (fo (sp_cm (cst I z) z) (j + 1) 0 (0, none)).2 = some c ∧ (ro I n z).2 j = nI c) := by
  have h6 := iv_n6 h
  have h64 := pw64 h6
  have hA : ∀ P, P < 64 → (cst I z).testBit P = cnd (cs I) z (cst I z) P := fun P hP => sts_A (by omega) hP
  obtain ⟨o1, -, o3⟩ := or_spec (S' := rs I n 49) h6 hz hA (fun P hP => (iv_cs h hP).symm) 6 0 0 (I 52) (by omega) (Nat.zero_and z) card_0.symm (by rw [card_0]; have := card_le (show z < 64 by omega); omega)
  refine ⟨?_, fun ht j hj => ?_⟩
  · have e : (ro I n z).1 = (decide (0 = z) || (sp_nc (cst I z) z 0 6 0).isSome) := o1
    rw [e, hA 0 (by omega)]
    unfold cnd
    rw [Nat.zero_and, iv_cs h (Nat.two_pow_pos n), rs_0]
    simp
  · have := o3 ht j (by omega)
    rw [Nat.zero_add] at this
    exact this
end Come
