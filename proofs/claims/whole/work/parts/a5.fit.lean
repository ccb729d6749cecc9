section Fit
variable {g : cp_G} {d : Nat} {I M N : cp_I} {J : cp_J} {Q : cp_QT} {t u r x n s m : Nat}
/-! what was felt: class and reference -/
def tfs (F : Nat → Int32) (k : Nat) : Nat := (F (77 + 2 * k)).toNatClampNeg
theorem iv_U (h : ivB I t n s m) : ∃ um tm, rU I um tm (tua (I 47)) (tub (I 47)) (tfs (I 47)) ∧ cU I t um tm (tua (I 47)) (tub (I 47)) (tfs (I 47)) ∧ (I 47 7).toNatClampNeg = um ∧ (I 47 8).toNatClampNeg = tm ∧ ∀ k, k < tm → tfs (I 47) k < 2 ^ n := by
  have h6 := iv_n6 h
  have hx := iv_tw h
  obtain ⟨um, um4, e7⟩ := h.2.2.2.2.2.2.1
  obtain ⟨tm, tm4, e8⟩ := h.2.2.2.2.2.2.2.1
  have c7 : (I 47 7).toNatClampNeg = um := by rw [e7]; exact ncl (by omega)
  have c8 : (I 47 8).toNatClampNeg = tm := by rw [e8]; exact ncl (by omega)
  have hu : ∀ k, k < um → I 47 (64 + 3 * k) = nI (tua (I 47) k) ∧ I 47 (65 + 3 * k) = nI (tub (I 47) k) ∧ tua (I 47) k < 6 ∧ tub (I 47) k < 6 := fun k hk => by
    obtain ⟨a1, a2, a3, a4, -⟩ := hx.2.2.1.1 k (by omega)
    exact ⟨a1, a2, by omega, by omega⟩
  have hf : ∀ k, k < tm → I 47 (77 + 2 * k) = nI (tfs (I 47) k) ∧ tfs (I 47) k < 2 ^ n := fun k hk => by
    obtain ⟨z, z1, z2⟩ := hx.2.2.2.1 k (by omega)
    have h64 := pw64 h6
    have e : tfs (I 47) k = z := by unfold tfs; rw [z2]; exact ncl (by omega)
    rw [e]
    exact ⟨z2, z1⟩
  have h64 := pw64 h6
  refine ⟨um, tm, ⟨⟨e7, um4⟩, ⟨e8, tm4⟩, hu, fun k hk => ⟨(hf k hk).1, by have := (hf k hk).2; omega⟩⟩, ⟨⟨by rw [(iv_hd h).2.2.2.2.2.1]; exact e7, um4⟩, ⟨by rw [(iv_hd h).2.2.2.2.2.2]; exact e8, tm4⟩, fun k hk => ?_, fun k hk => ?_⟩, c7, c8, fun k hk => (hf k hk).2⟩
  · obtain ⟨q1, q2, -⟩ := (iv_fr4 h).2.2.2.1 k (by rw [c7]; exact hk)
    rw [q1, q2]
    exact hu k hk
  · obtain ⟨-, q2⟩ := (iv_fr4 h).2.2.2.2.1 k (by rw [c8]; exact hk)
    rw [q2]
    exact ⟨(hf k hk).1, by have := (hf k hk).2; omega⟩
theorem iv_cwb (h : ivB I t n s m) {um : Nat} (hum : (I 47 7).toNatClampNeg = um) (S kn : Nat) (ch : Int32) : cwb I t n um (tua (I 47)) (tub (I 47)) S kn ch = sp_warm n (I 47 0) ch (rt (trm I um (tua (I 47)) (tub (I 47)) kn) 56) S := by
  have h6 := iv_n6 h
  have hx := iv_tw h
  have et : trm I um (tua (I 47)) (tub (I 47)) kn = tqM I kn um := rfl
  unfold cwb sp_warm
  rw [et, sum_D (fun a b ha hb => tq_y hx h6 kn um (by omega) a b (by omega) (by omega)), tq_D hx h6 kn S ch um (by omega), cwp_D, cwu_S, (iv_hd h).1, Int32.add_assoc]
  congr 3
  · refine sD_cong (fun a b hab hb => ?_)
    unfold fm sp_pr
    rw [tq_0 I kn (show a < 6 by omega) (show b < 6 by omega)]
    unfold ct0
    rw [(iv_fr4 h).2.2.1 a b (by omega) (by omega)]
  · refine Sg_cong um (fun k hk => ?_)
    unfold dlt
    obtain ⟨-, -, q3⟩ := (iv_fr4 h).2.2.2.1 k (by omega)
    rw [q3]
theorem iv_wf (h : ivB I t n s m) {um tm : Nat} (hum : (I 47 7).toNatClampNeg = um) (htm : (I 47 8).toNatClampNeg = tm) (kn : Nat) (ch : Int32) : cfu I t n um tm (tua (I 47)) (tub (I 47)) (tfs (I 47)) kn ch tm 0 = sp_wf (trm I um (tua (I 47)) (tub (I 47)) kn) n tm (tfs (I 47)) ch := by
  unfold cfu sp_wf
  refine sp_fst_congr tm 0 (fun k _ hk => ?_)
  rw [iv_cwb h hum, trm_o I _ _ _ _ (by omega), trm_o I _ _ _ _ (by omega), ((iv_fr4 h).2.2.2.2.1 k (by omega)).1]
theorem iv_cft (h : ivB I t n s m) {um tm : Nat} (hum : (I 47 7).toNatClampNeg = um) (htm : (I 47 8).toNatClampNeg = tm) : cft I t n um tm (tua (I 47)) (tub (I 47)) (tfs (I 47)) = rft I n um tm (tua (I 47)) (tub (I 47)) (tfs (I 47)) := by
  funext kn
  unfold cft rft
  rw [iv_wf h hum htm, (iv_hd h).2.1]
/-! counting sets that fit -/
theorem cnt_app {p : Nat → Bool} : ∀ (m m' k z : Nat), sp_cnt p (m + m') k z = sp_cnt p m' (k + m) (sp_cnt p m k z)
  | 0, m', k, z => by rw [Nat.zero_add, Nat.add_zero]; rfl
  | m + 1, m', k, z => by
    rw [show m + 1 + m' = (m + m') + 1 by omega]
    show sp_cnt p (m + m') (k + 1) (if p k = true then z + 1 else z) = sp_cnt p m' (k + (m + 1)) (sp_cnt p m (k + 1) (if p k = true then z + 1 else z))
    rw [cnt_app m m' (k + 1), show k + 1 + m = k + (m + 1) by omega]
theorem cnt_no {p : Nat → Bool} : ∀ (m k z : Nat), (∀ j, k ≤ j → j < k + m → p j = false) → sp_cnt p m k z = z
  | 0, _, _, _ => rfl
  | m + 1, k, z, h => by
    show sp_cnt p m (k + 1) (if p k = true then z + 1 else z) = z
    rw [h k (by omega) (by omega), if_neg Bool.false_ne_true]
    exact cnt_no m (k + 1) z (fun j h1 h2 => h j (by omega) (by omega))
theorem cnt_le2 {p q : Nat → Bool} (h : ∀ j, p j = true → q j = true) : ∀ (m k z : Nat), sp_cnt p m k z ≤ sp_cnt q m k z
  | 0, _, _ => Nat.le_refl _
  | m + 1, k, z => by
    show sp_cnt p m (k + 1) (if p k = true then z + 1 else z) ≤ sp_cnt q m (k + 1) (if q k = true then z + 1 else z)
    by_cases e : p k = true
    · rw [if_pos e, if_pos (h k e)]
      exact cnt_le2 h m (k + 1) _
    · rw [if_neg e]
      by_cases e2 : q k = true
      · rw [if_pos e2, cnt_add m (k + 1) z 1]
        exact Nat.le_succ_of_le (cnt_le2 h m (k + 1) z)
      · rw [if_neg e2]
        exact cnt_le2 h m (k + 1) z
theorem cnt_split {p q : Nat → Bool} : ∀ (m k z w : Nat), sp_cnt (fun j => p j && q j) m k z + sp_cnt (fun j => p j && !q j) m k w = sp_cnt p m k (z + w)
  | 0, _, _, _ => rfl
  | m + 1, k, z, w => by
    show sp_cnt (fun j => p j && q j) m (k + 1) (if (p k && q k) = true then z + 1 else z) + sp_cnt (fun j => p j && !q j) m (k + 1) (if (p k && !q k) = true then w + 1 else w) = sp_cnt p m (k + 1) (if p k = true then z + w + 1 else z + w)
    cases e : p k with
    | false => simp only [Bool.false_and, Bool.false_eq_true, if_false]; exact cnt_split m (k + 1) z w
    | true =>
      cases e2 : q k with
      | false =>
        simp only [Bool.true_and, Bool.false_eq_true, if_false, Bool.not_false, if_true]
        rw [cnt_split m (k + 1) z (w + 1), Nat.add_assoc]
      | true =>
        simp only [Bool.true_and, if_true, Bool.not_true, Bool.false_eq_true, if_false]
        rw [cnt_split m (k + 1) (z + 1) w, show z + 1 + w = z + w + 1 by omega]
theorem cnt_pos {p : Nat → Bool} : ∀ (m k : Nat), 0 < sp_cnt p m k 0 ↔ ∃ j, k ≤ j ∧ j < k + m ∧ p j = true
  | 0, k => ⟨fun h => absurd h (Nat.lt_irrefl 0), fun ⟨j, h1, h2, _⟩ => by omega⟩
  | m + 1, k => by
    show 0 < sp_cnt p m (k + 1) (if p k = true then 0 + 1 else 0) ↔ _
    by_cases e : p k = true
    · rw [if_pos e, cnt_add m (k + 1) 0 1]
      exact ⟨fun _ => ⟨k, by omega, by omega, e⟩, fun _ => by omega⟩
    · rw [if_neg e, cnt_pos m (k + 1)]
      constructor
      · rintro ⟨j, h1, h2, h3⟩
        exact ⟨j, by omega, by omega, h3⟩
      · rintro ⟨j, h1, h2, h3⟩
        by_cases q : j = k
        · rw [q] at h3
          exact absurd h3 e
        · exact ⟨j, by omega, by omega, h3⟩
theorem sk_1 {F : Nat → Bool} {w : Int32} : ∀ (m k : Nat) (q : skT), (fo (sk1 F w) m k q).1 = sp_cnt F m k q.1
  | 0, _, _ => rfl
  | m + 1, k, q => by
    rw [fo, sk_1 m (k + 1)]
    show _ = sp_cnt F m (k + 1) (if F k = true then q.1 + 1 else q.1)
    unfold sk1
    by_cases e : F k = true
    · rw [if_pos e, if_pos e]
    · rw [if_neg e, if_neg e]
theorem sk_5 {F : Nat → Bool} {w : Int32} {i : Nat} : ∀ (m k : Nat) (q : skT), (fo (sk1 F w) m k q).2.2.2.2 i = sp_cnt (fun s => F s && s.testBit i) m k (q.2.2.2.2 i)
  | 0, _, _ => rfl
  | m + 1, k, q => by
    rw [fo, sk_5 m (k + 1)]
    show _ = sp_cnt (fun s => F s && s.testBit i) m (k + 1) (if (F k && k.testBit i) = true then q.2.2.2.2 i + 1 else q.2.2.2.2 i)
    unfold sk1
    by_cases e : F k = true
    · rw [if_pos e]
      by_cases e2 : k.testBit i = true
      · simp [e, e2]
      · simp [e, e2]
    · rw [if_neg e]
      simp [e]
theorem sk_3 {F : Nat → Bool} {w : Int32} {i : Nat} : ∀ (m k : Nat) (q : skT), (fo (sk1 F w) m k q).2.2.1.testBit i = true ↔ q.2.2.1.testBit i = true ∨ ∃ s, k ≤ s ∧ s < k + m ∧ (F s && s.testBit i) = true
  | 0, k, q => ⟨fun h => Or.inl h, fun h => by
    rcases h with h | ⟨j, h1, h2, _⟩
    · exact h
    · omega⟩
  | m + 1, k, q => by
    rw [fo, sk_3 m (k + 1)]
    unfold sk1
    by_cases e : F k = true
    · rw [if_pos e]
      show (q.2.2.1 ||| k).testBit i = true ∨ _ ↔ _
      rw [Nat.testBit_or, Bool.or_eq_true]
      constructor
      · rintro ((h | h) | ⟨j, h1, h2, h3⟩)
        · exact Or.inl h
        · exact Or.inr ⟨k, by omega, by omega, by simp [e, h]⟩
        · exact Or.inr ⟨j, by omega, by omega, h3⟩
      · rintro (h | ⟨j, h1, h2, h3⟩)
        · exact Or.inl (Or.inl h)
        · by_cases z : j = k
          · subst z
            rw [Bool.and_eq_true] at h3
            exact Or.inl (Or.inr h3.2)
          · exact Or.inr ⟨j, by omega, by omega, h3⟩
    · rw [if_neg e]
      constructor
      · rintro (h | ⟨j, h1, h2, h3⟩)
        · exact Or.inl h
        · exact Or.inr ⟨j, by omega, by omega, h3⟩
      · rintro (h | ⟨j, h1, h2, h3⟩)
        · exact Or.inl h
        · by_cases z : j = k
          · subst z
            rw [Bool.and_eq_true] at h3
            exact absurd h3.1 e
          · exact Or.inr ⟨j, by omega, by omega, h3⟩
theorem sk_4 {F : Nat → Bool} {w : Int32} {i : Nat} : ∀ (m k : Nat) (q : skT), (fo (sk1 F w) m k q).2.2.2.1.testBit i = true ↔ q.2.2.2.1.testBit i = true ∧ ∀ s, k ≤ s → s < k + m → F s = true → s.testBit i = true
  | 0, k, q => ⟨fun h => ⟨h, fun j h1 h2 => by omega⟩, fun h => h.1⟩
  | m + 1, k, q => by
    rw [fo, sk_4 m (k + 1)]
    unfold sk1
    by_cases e : F k = true
    · rw [if_pos e]
      show (q.2.2.2.1 &&& k).testBit i = true ∧ _ ↔ _
      rw [Nat.testBit_and, Bool.and_eq_true]
      constructor
      · rintro ⟨⟨h1, h2⟩, h3⟩
        refine ⟨h1, fun j j1 j2 j3 => ?_⟩
        by_cases z : j = k
        · rw [z]
          exact h2
        · exact h3 j (by omega) (by omega) j3
      · rintro ⟨h1, h2⟩
        exact ⟨⟨h1, h2 k (by omega) (by omega) e⟩, fun j j1 j2 j3 => h2 j (by omega) (by omega) j3⟩
    · rw [if_neg e]
      constructor
      · rintro ⟨h1, h3⟩
        refine ⟨h1, fun j j1 j2 j3 => ?_⟩
        by_cases z : j = k
        · rw [z] at j3
          exact absurd j3 e
        · exact h3 j (by omega) (by omega) j3
      · rintro ⟨h1, h2⟩
        exact ⟨h1, fun j j1 j2 j3 => h2 j (by omega) (by omega) j3⟩
theorem sk_2k {F : Nat → Bool} {i : Int32} {j : Nat} (hi : i = nI j) : ∀ (m k : Nat) (q : skT), j < q.1 → q.1 + m < 1000 → (fo (sk1 F i) m k q).2.1 = q.2.1
  | 0, _, _, _, _ => rfl
  | m + 1, k, q, h, hb => by
    rw [fo]
    have e : j < (sk1 F i k q).1 ∧ (sk1 F i k q).2.1 = q.2.1 ∧ (sk1 F i k q).1 ≤ q.1 + 1 := by
      unfold sk1
      by_cases e : F k = true
      · rw [if_pos e]
        refine ⟨by show j < q.1 + 1; omega, ?_, Nat.le_refl _⟩
        show (if nI q.1 = i then nI k else q.2.1) = q.2.1
        rw [if_neg]
        intro z
        rw [hi] at z
        have := (nI_eq (by omega) (by omega)).1 z
        omega
      · rw [if_neg e]
        exact ⟨h, rfl, by omega⟩
    rw [sk_2k hi m (k + 1) _ e.1 (by omega), e.2.1]
theorem sk_2 {F : Nat → Bool} {i : Int32} : ∀ (m k : Nat) (q : skT), q.1 + m < 1000 → (fo (sk1 F i) m k q).2.1 = match sp_nth F i m k q.1 with
    | some s => nI s
    | none => q.2.1
  | 0, _, _, _ => rfl
  | m + 1, k, q, hb => by
    rw [fo]
    show _ = match (if F k = true then (if nI q.1 = i then some k else sp_nth F i m (k + 1) (q.1 + 1)) else sp_nth F i m (k + 1) q.1) with
      | some s => nI s
      | none => q.2.1
    by_cases e : F k = true
    · rw [if_pos e]
      have es : sk1 F i k q = (q.1 + 1, (if nI q.1 = i then nI k else q.2.1), q.2.2.1 ||| k, q.2.2.2.1 &&& k, fun j => q.2.2.2.2 j + (if k.testBit j = true then 1 else 0)) := by unfold sk1; rw [if_pos e]
      by_cases e2 : nI q.1 = i
      · rw [if_pos e2, sk_2k e2.symm m (k + 1) _ (by rw [es]; show q.1 < q.1 + 1; omega) (by rw [es]; show q.1 + 1 + m < 1000; omega), es]
        show (if nI q.1 = i then nI k else q.2.1) = nI k
        rw [if_pos e2]
      · rw [if_neg e2, sk_2 m (k + 1) _ (by rw [es]; show q.1 + 1 + m < 1000; omega), es]
        simp only [if_neg e2]
    · have es : sk1 F i k q = q := by unfold sk1; rw [if_neg e]
      rw [if_neg e, es, sk_2 m (k + 1) q (by omega)]
end Fit
