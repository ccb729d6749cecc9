section Text2
variable {T : Nat → Nat} {n : Nat} {s : pS}
/-! what a text that is read keeps to -/
theorem cl8_lt {k : Nat} {F : Int32} (h : ¬ F = 4) (hv : F = nI k) (hk : k ≤ 4) : F.toNatClampNeg < 4 := by
  have e : F.toNatClampNeg = k := by rw [hv]; exact ncl (by omega)
  rcases Nat.lt_or_ge k 4 with z | z
  · omega
  · have e4 : k = 4 := by omega
    rw [e4] at hv
    exact absurd hv h
theorem p_line_C {a : pS} (hw : wf0 s) (h : p_line T n s = .ok a) :
    (∃ w c i v p : Nat, w ≤ 60 ∧ c ≤ 9 ∧ i ≤ 30 ∧ v ≤ 100 ∧ s.2.1 9 = 0 ∧ a = (p, upd (upd (upd (upd (upd s.2.1 0 (nI w)) 1 (nI c)) 2 (nI i)) 3 (nI v)) 9 1, s.2.2))
    ∨ (∃ (k v q : Nat) (w : List Nat), k ≤ 2 ∧ v ≤ 99 ∧ s.2.2.length < 6 ∧ a = (q, upd (upd (upd s.2.1 (10 + 2 * s.2.2.length) (nI k)) (11 + 2 * s.2.2.length) (nI v)) 4 (nI (s.2.2.length + 1)), s.2.2 ++ [w]))
    ∨ (∃ q b c v p : Nat, (q = 0 ∨ q = 1 ∨ q = 2) ∧ (q = 0 → (s.2.1 7).toNatClampNeg < 4) ∧ b < s.2.2.length ∧ c < s.2.2.length ∧ b ≠ c ∧ ((s.2.1 (58 + b)).toNatClampNeg).testBit c = false ∧ 1 ≤ v ∧ v ≤ 9 ∧ a = (p, p_pair q s.2.1 b c v, s.2.2))
    ∨ (∃ v z p : Nat, v ≤ 200 ∧ z < 2 ^ s.2.2.length ∧ (s.2.1 8).toNatClampNeg < 4 ∧ a = (p, upd (upd (upd s.2.1 (76 + 2 * (s.2.1 8).toNatClampNeg) (nI v)) (77 + 2 * (s.2.1 8).toNatClampNeg) (nI z)) 8 (s.2.1 8 + 1), s.2.2)) := by
  obtain ⟨w1, w2, w3, w4, ⟨v7, w71, w72⟩, ⟨v8, w81, w82⟩, w6⟩ := hw
  unfold p_line at h
  split at h
  · obtain ⟨w, c, i, v, p, a1, a2, a3, a4, hp, h9, rfl⟩ := p_head_F h
    exact Or.inl ⟨w, c, i, v, p, a1, a2, a3, a4, h9, rfl⟩
  · split at h
    · split at h
      · cases h
      · split at h
        · split at h
          · rename_i hl
            obtain ⟨k, v, q, k1, k2, hp, -, -, rfl⟩ := p_bather_F h
            exact Or.inr (Or.inl ⟨k, v, q, _, k1, k2, hl, rfl⟩)
          · cases h
        · split at h
          · obtain ⟨b, c, v, p, hb, hc, hbc, hbt, v1, v2, hp, rfl⟩ := p_tie_F h
            exact Or.inr (Or.inr (Or.inl ⟨1, b, c, v, p, by omega, by omega, hb, hc, hbc, Bool.eq_false_iff.mpr hbt, v1, v2, rfl⟩))
          · split at h
            · obtain ⟨b, c, v, p, hb, hc, hbc, hbt, v1, v2, hp, rfl⟩ := p_tie_F h
              exact Or.inr (Or.inr (Or.inl ⟨2, b, c, v, p, by omega, by omega, hb, hc, hbc, Bool.eq_false_iff.mpr hbt, v1, v2, rfl⟩))
            · split at h
              · split at h
                · cases h
                · rename_i h7
                  obtain ⟨b, c, v, p, hb, hc, hbc, hbt, v1, v2, hp, rfl⟩ := p_tie_F h
                  exact Or.inr (Or.inr (Or.inl ⟨0, b, c, v, p, by omega, fun _ => cl8_lt h7 w72 w71, hb, hc, hbc, Bool.eq_false_iff.mpr hbt, v1, v2, rfl⟩))
              · split at h
                · cases h
                · rename_i h8
                  obtain ⟨v, z, p, v1, v2, hp, rfl⟩ := p_felt_F h
                  exact Or.inr (Or.inr (Or.inr ⟨v, z, p, v1, v2, cl8_lt h8 w82 w81, rfl⟩))
    · cases h
theorem p_lines_ind {Φ : pS → Prop} (hp : ∀ s p, Φ s → Φ (p, s.2)) (hl : ∀ s a, wf0 s → Φ s → p_line T n s = .ok a → Φ a) : ∀ (m : Nat) (s a : pS), wf0 s → Φ s → p_lines T n m s = .ok a → wf0 a ∧ Φ a
  | 0, s, a, hw, h, e => by
    simp only [p_lines, Except.ok.injEq] at e
    subst e
    exact ⟨hw, h⟩
  | m + 1, s, a, hw, h, e => by
    rw [p_lines] at e
    cases hb : p_line T n s with
    | error x => rw [hb] at e; cases e
    | ok b =>
      rw [hb] at e
      simp only [eb_ok] at e
      have w1 := (p_line_F hw hb).1
      have h1 := hl s b hw h hb
      split at e
      · exact p_lines_ind hp hl m _ a (wf0_pnx w1) (hp _ _ h1) e
      · split at e
        · cases e
          exact ⟨w1, h1⟩
        · cases e
theorem p_text_ind {Φ : pS → Prop} (hp : ∀ s p, Φ s → Φ (p, s.2)) (hl : ∀ s a, wf0 s → Φ s → p_line T n s = .ok a → Φ a) (h0 : Φ (0, fun _ => 0, [])) (h : p_text T n = .ok s) : Φ s := by
  unfold p_text at h
  cases hb : p_lines T n 901 (0, fun _ => 0, []) with
  | error x => rw [hb] at h; cases h
  | ok b =>
    rw [hb] at h
    simp only [eb_ok] at h
    split at h
    · cases h
    · cases h
      refine (p_lines_ind hp hl 901 _ _ ?_ h0 hb).2
      exact ⟨Nat.zero_le _, rfl, Or.inl rfl, fun _ => ⟨rfl, rfl, rfl⟩, ⟨0, by omega, rfl⟩, ⟨0, by omega, rfl⟩, fun a _ => ⟨0, by omega, rfl⟩⟩
theorem p_text_pos (h : p_text T n = .ok s) : ¬ s.2.2.length = 0 := by
  unfold p_text at h
  cases hb : p_lines T n 901 (0, fun _ => 0, []) with
  | error x => rw [hb] at h; cases h
  | ok b =>
    rw [hb] at h
    simp only [eb_ok] at h
    split at h
    · cases h
    · rename_i hne
      cases h
      exact hne
/-! pairs told of, ties, unsure pairs, felts, foes -/
def bp (F : Nat → Int32) (x y : Nat) : Bool := ((F (58 + x)).toNatClampNeg).testBit y
theorem pp_o {F : Nat → Int32} {q b c v j : Nat} (hq : q = 0 ∨ q = 1 ∨ q = 2) (h7 : q = 0 → (F 7).toNatClampNeg < 4) (hb : b < 6) (hc : c < 6) (hj : j < 5 ∨ (8 ≤ j ∧ j < 22) ∨ 76 ≤ j) : p_pair q F b c v j = F j := by
  rcases hq with rfl | rfl | rfl
  · have := h7 rfl
    rw [p_pair_0]
    simp (disch := omega) only [pk_un]
  · rw [p_pair_1]
    simp (disch := omega) only [pk_un]
  · rw [p_pair_2]
    simp (disch := omega) only [pk_un]
theorem pp_58 {F : Nat → Int32} {q b c v x : Nat} (hq : q = 0 ∨ q = 1 ∨ q = 2) (hb : b < 6) (hc : c < 6) (hx : x < 6) : p_pair q F b c v (58 + x) = upd (upd F (58 + b) (F (58 + b) ||| nI (2 ^ c))) (58 + c) (F (58 + c) ||| nI (2 ^ b)) (58 + x) := by
  rcases hq with rfl | rfl | rfl
  · rw [p_pair_0, pk_un (by omega), pk_un (by omega), pk_un (by omega), pk_un (by omega)]
  · rw [p_pair_1, pk_un (by omega), pk_un (by omega), pk_un (by omega)]
  · rw [p_pair_2, pk_un (by omega), pk_un (by omega), pk_un (by omega)]
theorem bp_pair {F : Nat → Int32} {q b c v x : Nat} (hw : ∀ a, a < 6 → ∃ z, z < 64 ∧ F (58 + a) = nI z) (hq : q = 0 ∨ q = 1 ∨ q = 2) (hb : b < 6) (hc : c < 6) (hbc : b ≠ c) (hx : x < 6) (y : Nat) : bp (p_pair q F b c v) x y = (bp F x y || (decide (x = b ∧ y = c) || decide (x = c ∧ y = b))) := by
  unfold bp
  rw [pp_58 hq hb hc hx]
  obtain ⟨zb, zb1, zb2⟩ := hw b hb
  obtain ⟨zc, zc1, zc2⟩ := hw c hc
  have hpb := pow_lt64 hb
  have hpc := pow_lt64 hc
  by_cases e1 : x = c
  · subst e1
    have hxb : ¬ x = b := fun z => hbc z.symm
    rw [pk_us, zc2, or_nI zc1 hpb, ncl (show zc ||| 2 ^ b < 1000 by have := or_lt64 zc1 hpb; omega), ncl (show zc < 1000 by omega), Nat.testBit_or, Nat.testBit_two_pow]
    have e : decide (b = y) = decide (y = b) := by simp only [eq_comm]
    simp [hxb, e]
  · by_cases e2 : x = b
    · subst e2
      rw [pk_un (by omega), pk_us, zb2, or_nI zb1 hpc, ncl (show zb ||| 2 ^ c < 1000 by have := or_lt64 zb1 hpc; omega), ncl (show zb < 1000 by omega), Nat.testBit_or, Nat.testBit_two_pow]
      have e : decide (c = y) = decide (y = c) := by simp only [eq_comm]
      simp [e1, e]
    · rw [pk_un (by omega), pk_un (by omega)]
      simp [e1, e2]
theorem tv_pair {F : Nat → Int32} {q b c v x y : Nat} (hq : q = 0 ∨ q = 1 ∨ q = 2) (h7 : q = 0 → (F 7).toNatClampNeg < 4) (hb : b < 6) (hc : c < 6) (hx : x < 6) (hy : y < 6) : p_pair q F b c v (22 + 6 * x + y) = if q = 0 then F (22 + 6 * x + y) else if (x = b ∧ y = c) ∨ (x = c ∧ y = b) then (if q = 1 then nI v else -nI v) else F (22 + 6 * x + y) := by
  rcases hq with rfl | rfl | rfl
  · have := h7 rfl
    rw [p_pair_0, if_pos rfl]
    simp (disch := omega) only [pk_un]
  · rw [p_pair_1, if_neg (by omega), if_pos rfl, pk_un (by omega)]
    by_cases e1 : x = c ∧ y = b
    · obtain ⟨rfl, rfl⟩ := e1
      rw [pk_us, if_pos (Or.inr ⟨rfl, rfl⟩)]
    · rw [pk_un (by omega)]
      by_cases e2 : x = b ∧ y = c
      · obtain ⟨rfl, rfl⟩ := e2
        rw [pk_us, if_pos (Or.inl ⟨rfl, rfl⟩)]
      · rw [pk_un (by omega), if_neg (by omega), pk_un (by omega), pk_un (by omega)]
  · rw [p_pair_2, if_neg (by omega), if_neg (show ¬ (2 : Nat) = 1 by omega), pk_un (by omega)]
    by_cases e1 : x = c ∧ y = b
    · obtain ⟨rfl, rfl⟩ := e1
      rw [pk_us, if_pos (Or.inr ⟨rfl, rfl⟩)]
    · rw [pk_un (by omega)]
      by_cases e2 : x = b ∧ y = c
      · obtain ⟨rfl, rfl⟩ := e2
        rw [pk_us, if_pos (Or.inl ⟨rfl, rfl⟩)]
      · rw [pk_un (by omega), if_neg (by omega), pk_un (by omega), pk_un (by omega)]
def tw1 (F : Nat → Int32) (l : Nat) : Prop := (∃ w, w ≤ 60 ∧ F 0 = nI w) ∧ (∃ c, c ≤ 9 ∧ F 1 = nI c) ∧ (∃ v, v ≤ 100 ∧ F 3 = nI v) ∧ (∃ i, i ≤ 30 ∧ F 2 = nI i) ∧ ∀ b, b < l → ∃ e, e ≤ 99 ∧ F (11 + 2 * b) = nI e
def tw2 (F : Nat → Int32) (l : Nat) : Prop := ∀ a b, a < 6 → b < 6 → F (22 + 6 * a + b) = F (22 + 6 * b + a) ∧ (a = b → bp F a b = false) ∧ bp F a b = bp F b a ∧ (bp F a b = true → a < l ∧ b < l) ∧ (bp F a b = false → F (22 + 6 * a + b) = 0) ∧ ∃ v, v ≤ 9 ∧ (F (22 + 6 * a + b) = nI v ∨ F (22 + 6 * a + b) = -nI v)
def tua (F : Nat → Int32) (k : Nat) : Nat := (F (64 + 3 * k)).toNatClampNeg
def tub (F : Nat → Int32) (k : Nat) : Nat := (F (65 + 3 * k)).toNatClampNeg
def tw3a (F : Nat → Int32) (l k : Nat) : Prop := F (64 + 3 * k) = nI (tua F k) ∧ F (65 + 3 * k) = nI (tub F k) ∧ tua F k < l ∧ tub F k < l ∧ tua F k ≠ tub F k ∧ bp F (tua F k) (tub F k) = true ∧ F (22 + 6 * tua F k + tub F k) = 0 ∧ ∃ v, 1 ≤ v ∧ v ≤ 9 ∧ F (66 + 3 * k) = nI v
def tw3 (F : Nat → Int32) (l : Nat) : Prop := (∀ k, k < (F 7).toNatClampNeg → tw3a F l k) ∧ ∀ k k', k < k' → k' < (F 7).toNatClampNeg → ¬ (tua F k = tua F k' ∧ tub F k = tub F k') ∧ ¬ (tua F k = tub F k' ∧ tub F k = tua F k')
def tw4 (F : Nat → Int32) (l : Nat) : Prop := ∀ k, k < (F 8).toNatClampNeg → ∃ z, z < 2 ^ l ∧ F (77 + 2 * k) = nI z
def tw5 (F : Nat → Int32) : Prop := ∃ f, F 6 = nI f ∧ sp_cnt (fun j => decide (F (22 + j) < 0)) 36 0 0 = 2 * f
def tw (F : Nat → Int32) (l : Nat) : Prop := tw1 F l ∧ tw2 F l ∧ tw3 F l ∧ tw4 F l ∧ tw5 F
theorem tw1_e {F F' : Nat → Int32} {l : Nat} (h : tw1 F l) (hl : l ≤ 6) (e : ∀ j, j < 4 ∨ (11 ≤ j ∧ j < 22) → F' j = F j) : tw1 F' l := by
  obtain ⟨h0, h1, h3, h2, hb⟩ := h
  refine ⟨?_, ?_, ?_, ?_, fun b hb' => ?_⟩
  · rw [e 0 (by omega)]; exact h0
  · rw [e 1 (by omega)]; exact h1
  · rw [e 3 (by omega)]; exact h3
  · rw [e 2 (by omega)]; exact h2
  · rw [e _ (by omega)]; exact hb b hb'
theorem bp_e {F F' : Nat → Int32} (e : ∀ j, 58 ≤ j → j < 64 → F' j = F j) {x : Nat} (hx : x < 6) (y : Nat) : bp F' x y = bp F x y := by
  unfold bp
  rw [e _ (by omega) (by omega)]
theorem tw2_e {F F' : Nat → Int32} {l l' : Nat} (h : tw2 F l) (hl : l ≤ l') (e : ∀ j, 22 ≤ j → j < 64 → F' j = F j) : tw2 F' l' := by
  intro a b ha hb
  obtain ⟨h1, h2, h3, h4, h5, h6⟩ := h a b ha hb
  have eb : ∀ j, 58 ≤ j → j < 64 → F' j = F j := fun j j1 j2 => e j (by omega) j2
  rw [e (22 + 6 * a + b) (by omega) (by omega), e (22 + 6 * b + a) (by omega) (by omega), bp_e eb ha, bp_e eb hb]
  exact ⟨h1, h2, h3, fun q => by have := h4 q; omega, h5, h6⟩
theorem tw3_e {F F' : Nat → Int32} {l l' : Nat} (h : tw3 F l) (hl : l ≤ l') (hl6 : l ≤ 6) (h4 : (F 7).toNatClampNeg ≤ 4) (e7 : F' 7 = F 7) (e : ∀ j, 22 ≤ j → j < 76 → F' j = F j) : tw3 F' l' := by
  obtain ⟨h1, h2⟩ := h
  have eu : ∀ k, k < 4 → tua F' k = tua F k ∧ tub F' k = tub F k := fun k hk => by
    unfold tua tub
    rw [e _ (by omega) (by omega), e _ (by omega) (by omega)]
    exact ⟨rfl, rfl⟩
  refine ⟨fun k hk => ?_, fun k k' hk hk' => ?_⟩
  · rw [e7] at hk
    obtain ⟨a1, a2, a3, a4, a5, a6, a7, a8⟩ := h1 k hk
    unfold tw3a
    rw [(eu k (by omega)).1, (eu k (by omega)).2, e _ (by omega) (by omega), e _ (by omega) (by omega), e _ (by omega) (by omega), e _ (by omega) (by omega), bp_e (fun j j1 j2 => e j (by omega) (by omega)) (by omega)]
    exact ⟨a1, a2, by omega, by omega, a5, a6, a7, a8⟩
  · rw [e7] at hk'
    rw [(eu k (by omega)).1, (eu k (by omega)).2, (eu k' (by omega)).1, (eu k' (by omega)).2]
    exact h2 k k' hk hk'
theorem tw4_e {F F' : Nat → Int32} {l l' : Nat} (h : tw4 F l) (hl : l ≤ l') (h4 : (F 8).toNatClampNeg ≤ 4) (e8 : F' 8 = F 8) (e : ∀ j, 76 ≤ j → j < 84 → F' j = F j) : tw4 F' l' := by
  intro k hk
  rw [e8] at hk
  obtain ⟨z, z1, z2⟩ := h k hk
  exact ⟨z, Nat.lt_of_lt_of_le z1 (Nat.pow_le_pow_right (by omega) hl), by rw [e _ (by omega) (by omega)]; exact z2⟩
theorem cnt_cong {p q : Nat → Bool} : ∀ (m k z : Nat), (∀ j, k ≤ j → j < k + m → p j = q j) → sp_cnt p m k z = sp_cnt q m k z
  | 0, _, _, _ => rfl
  | m + 1, k, z, h => by
    have e := h k (by omega) (by omega)
    show sp_cnt p m (k + 1) (if p k = true then z + 1 else z) = sp_cnt q m (k + 1) (if q k = true then z + 1 else z)
    rw [e]
    exact cnt_cong m (k + 1) _ (fun j h1 h2 => h j (by omega) (by omega))
theorem tw5_e {F F' : Nat → Int32} (h : tw5 F) (e6 : F' 6 = F 6) (e : ∀ j, 22 ≤ j → j < 58 → F' j = F j) : tw5 F' := by
  obtain ⟨f, f1, f2⟩ := h
  refine ⟨f, by rw [e6]; exact f1, ?_⟩
  rw [← f2]
  exact cnt_cong 36 0 0 (fun j _ h2 => by simp only [e (22 + j) (by omega) (by omega)])
theorem cnt_add {p : Nat → Bool} : ∀ (m k z w : Nat), sp_cnt p m k (z + w) = sp_cnt p m k z + w
  | 0, _, _, _ => rfl
  | m + 1, k, z, w => by
    show sp_cnt p m (k + 1) (if p k = true then z + w + 1 else z + w) = sp_cnt p m (k + 1) (if p k = true then z + 1 else z) + w
    by_cases h : p k = true
    · rw [if_pos h, if_pos h, show z + w + 1 = z + 1 + w by omega]
      exact cnt_add m (k + 1) (z + 1) w
    · rw [if_neg h, if_neg h]
      exact cnt_add m (k + 1) z w
theorem cnt_one {p q : Nat → Bool} {i : Nat} (hp : p i = false) (hq : q i = true) (h : ∀ j, j ≠ i → p j = q j) : ∀ (m k z : Nat), k ≤ i → i < k + m → sp_cnt q m k z = sp_cnt p m k z + 1
  | 0, k, z, h1, h2 => by omega
  | m + 1, k, z, h1, h2 => by
    show sp_cnt q m (k + 1) (if q k = true then z + 1 else z) = sp_cnt p m (k + 1) (if p k = true then z + 1 else z) + 1
    by_cases e : k = i
    · subst e
      rw [if_pos hq, hp, if_neg Bool.false_ne_true, cnt_add m (k + 1) z 1, cnt_cong m (k + 1) z (p := p) (q := q) (fun j j1 j2 => h j (by omega))]
    · rw [h k e]
      exact cnt_one hp hq h m (k + 1) _ (by omega) (by omega)
end Text2
