section Sum
variable {g : cp_G} {d : Nat} {I M N : cp_I} {J : cp_J} {Q : cp_QT} {t u r x n s m : Nat}
/-! sums over pairs -/
def Sg (f : Nat → Int32) : Nat → Int32
  | 0 => 0
  | n + 1 => Sg f n + f n
theorem i4 (a b c e : Int32) : a + b + (c + e) = a + c + (b + e) := by rw [Int32.add_assoc, Int32.add_assoc, ← Int32.add_assoc b c e, Int32.add_comm b c, Int32.add_assoc c b e]
theorem fo_Sg {f : Nat → Int32} {k : Nat} {w : Int32} : ∀ m, fo (fun b z => z + f b) m k w = w + Sg (fun i => f (k + i)) m
  | 0 => (Int32.add_zero w).symm
  | m + 1 => by
    rw [fo_s, fo_Sg m]
    show w + Sg (fun i => f (k + i)) m + f (k + m) = w + (Sg (fun i => f (k + i)) m + f (k + m))
    rw [Int32.add_assoc]
theorem Sg_cong {f h : Nat → Int32} : ∀ n, (∀ i, i < n → f i = h i) → Sg f n = Sg h n
  | 0, _ => rfl
  | n + 1, e => by
    show Sg f n + f n = Sg h n + h n
    rw [Sg_cong n (fun i hi => e i (by omega)), e n (by omega)]
theorem Sg_add {f h : Nat → Int32} : ∀ n, Sg (fun i => f i + h i) n = Sg f n + Sg h n
  | 0 => (Int32.add_zero 0).symm
  | n + 1 => by
    show Sg (fun i => f i + h i) n + (f n + h n) = Sg f n + f n + (Sg h n + h n)
    rw [Sg_add n, i4]
theorem Sg_upd {f f' : Nat → Int32} {i0 : Nat} {δ : Int32} (h0 : f' i0 = f i0 + δ) : ∀ n, i0 < n → (∀ i, i < n → i ≠ i0 → f' i = f i) → Sg f' n = Sg f n + δ
  | 0, hi, _ => by omega
  | n + 1, hi, h => by
    show Sg f' n + f' n = Sg f n + f n + δ
    by_cases e : i0 = n
    · subst e
      rw [Sg_cong i0 (fun i hi => h i (by omega) (by omega)), h0, Int32.add_assoc]
    · rw [Sg_upd h0 n (by omega) (fun i hi h' => h i (by omega) h'), h n (by omega) (fun z => e z.symm), Int32.add_assoc, Int32.add_comm δ (f n), Int32.add_assoc]
def sU (n : Nat) (f : Nat → Nat → Int32) : Int32 := Sg (fun a => Sg (fun i => f a (a + 1 + i)) (n - (a + 1))) n
def sD (n : Nat) (f : Nat → Nat → Int32) : Int32 := Sg (fun b => Sg (fun a => f a b) b) n
theorem sU_sD {f : Nat → Nat → Int32} : ∀ n, sU n f = sD n f
  | 0 => rfl
  | n + 1 => by
    have e : sU (n + 1) f = Sg (fun a => Sg (fun i => f a (a + 1 + i)) (n - (a + 1)) + f a n) n + 0 := by
      show Sg (fun a => Sg (fun i => f a (a + 1 + i)) (n + 1 - (a + 1))) n + Sg (fun i => f n (n + 1 + i)) (n + 1 - (n + 1)) = _
      rw [show n + 1 - (n + 1) = 0 by omega]
      congr 1
      refine Sg_cong n (fun a ha => ?_)
      rw [show n + 1 - (a + 1) = n - (a + 1) + 1 by omega]
      show Sg (fun i => f a (a + 1 + i)) (n - (a + 1)) + f a (a + 1 + (n - (a + 1))) = _
      rw [show a + 1 + (n - (a + 1)) = n by omega]
    rw [e, Int32.add_zero, Sg_add]
    show sU n f + Sg (fun a => f a n) n = sD n f + Sg (fun a => f a n) n
    rw [sU_sD n]
theorem sD_cong {f h : Nat → Nat → Int32} (e : ∀ a b, a < b → b < n → f a b = h a b) : sD n f = sD n h := Sg_cong n (fun b hb => Sg_cong b (fun a ha => e a b ha hb))
theorem sD_upd {f f' : Nat → Nat → Int32} {x0 y0 : Nat} {δ : Int32} (hx : x0 < y0) (hy : y0 < n) (h0 : f' x0 y0 = f x0 y0 + δ) (h : ∀ a b, a < b → b < n → ¬ (a = x0 ∧ b = y0) → f' a b = f a b) : sD n f' = sD n f + δ := by
  refine Sg_upd (i0 := y0) ?_ n hy (fun b hb hne => Sg_cong b (fun a ha => h a b ha hb (by omega)))
  exact Sg_upd (f := fun a => f a y0) (f' := fun a => f' a y0) (i0 := x0) h0 y0 hx (fun a ha hne => h a y0 ha hy (by omega))
/-- what two who are in give -/
def fm (ti : sp_T) (S : Nat) (ch : Int32) (a b : Nat) : Int32 := if S.testBit a = true ∧ S.testBit b = true then sp_pr ch ti a b else 0
theorem sum_D {c w : Int32} {ti : sp_T} {S : Nat} (hs : ∀ a b, a < n → b < n → ti a b = ti b a) : sp_sum n c ti S w = w + sD n (fm ti S c) := by
  unfold sp_sum
  have e : ∀ a, a < n → ∀ z, fo (sp_row c ti S a) a 0 z = z + Sg (fun b => fm ti S c b a) a := fun a ha z => by
    have e1 : fo (sp_row c ti S a) a 0 z = fo (fun b z => z + fm ti S c b a) a 0 z := by
      refine fo_congr a 0 z (fun b _ hb y => ?_)
      have es : sp_pr c ti a b = sp_pr c ti b a := by unfold sp_pr; rw [hs a b ha (by omega)]
      unfold sp_row fm
      rw [es]
      by_cases q : S.testBit a = true ∧ S.testBit b = true
      · rw [if_pos q, if_pos ⟨q.2, q.1⟩]
      · rw [if_neg q, if_neg (fun z => q ⟨z.2, z.1⟩), Int32.add_zero]
    rw [e1, fo_Sg]
    simp only [Nat.zero_add]
  rw [fo_congr n 0 w (h := fun a z => z + Sg (fun b => fm ti S c b a) a) (fun a _ ha z => e a (by omega) z), fo_Sg]
  simp only [Nat.zero_add]
  rfl
theorem cwp_D {c : Nat} {w ch : Int32} {S : Nat} : fo (cwp I c n S ch) n 0 w = w + sD n (fm (ct0 I c) S ch) := by
  have e : ∀ a, a < n → ∀ z, cwp I c n S ch a z = z + Sg (fun i => fm (ct0 I c) S ch a (a + 1 + i)) (n - (a + 1)) := fun a ha z => by
    unfold cwp
    rw [fo_congr (n - (a + 1)) (a + 1) z (h := fun b z => z + fm (ct0 I c) S ch a b) (fun b _ hb y => ?_), fo_Sg]
    unfold cwa fm
    by_cases q : S.testBit a = true ∧ S.testBit b = true
    · rw [if_pos (by simp [q]), if_pos q]
    · rw [if_neg (by simpa using q), if_neg q, Int32.add_zero]
  rw [fo_congr n 0 w (h := fun a z => z + Sg (fun i => fm (ct0 I c) S ch a (a + 1 + i)) (n - (a + 1))) (fun a _ ha z => e a (by omega) z), fo_Sg, ← sU_sD]
  simp only [Nat.zero_add]
  rfl
theorem cwu_S {c : Nat} {ua ub : Nat → Nat} {S kn : Nat} {ch w : Int32} (m : Nat) : fo (cwu I c ua ub S kn ch) m 0 w = w + Sg (fun k => if (kn.testBit k && (S.testBit (ua k) && S.testBit (ub k))) = true then ch + I (c + 7) k else 0) m := by
  rw [fo_congr m 0 w (h := fun k z => z + (if (kn.testBit k && (S.testBit (ua k) && S.testBit (ub k))) = true then ch + I (c + 7) k else 0)) (fun k _ _ z => ?_), fo_Sg]
  · simp only [Nat.zero_add]
  · unfold cwu
    split
    · rfl
    · rw [Int32.add_zero]
/-! the trial, pair by pair -/
def tqM (I : cp_I) (kn k : Nat) : cp_I := fo (tr1 I (tua (I 47)) (tub (I 47)) kn) k 0 (aT I 56 39)
theorem tq_0 (I : cp_I) (kn : Nat) {a b : Nat} (ha : a < 6) (hb : b < 6) : rt (tqM I kn 0) 56 a b = I 47 (22 + 6 * a + b) := by
  show aT I 56 39 56 (6 * a + b) = _
  unfold aT
  rw [if_pos ⟨rfl, by omega⟩, if_pos (by omega), show 22 + (6 * a + b) = 22 + 6 * a + b by omega]
theorem tq_s (I : cp_I) (kn k : Nat) {a b : Nat} (ha : a < 6) (hb : b < 6) (h1 : tua (I 47) k < 6) (h2 : tub (I 47) k < 6) : rt (tqM I kn (k + 1)) 56 a b = if kn.testBit k = true ∧ ((a = tua (I 47) k ∧ b = tub (I 47) k) ∨ (a = tub (I 47) k ∧ b = tua (I 47) k)) then I 47 (66 + 3 * k) else rt (tqM I kn k) 56 a b := by
  unfold tqM
  rw [fo_s, Nat.zero_add]
  show tr1 I (tua (I 47)) (tub (I 47)) kn k (fo (tr1 I (tua (I 47)) (tub (I 47)) kn) k 0 (aT I 56 39)) 56 (6 * a + b) = _
  unfold tr1
  by_cases e : kn.testBit k = true
  · rw [if_pos e]
    by_cases q2 : a = tub (I 47) k ∧ b = tua (I 47) k
    · rw [if_pos ⟨e, Or.inr q2⟩, cp_u_at, if_pos ⟨rfl, by rw [q2.1, q2.2]⟩]
    · rw [cp_u_at, if_neg (by omega)]
      by_cases q1 : a = tua (I 47) k ∧ b = tub (I 47) k
      · rw [if_pos ⟨e, Or.inl q1⟩, cp_u_at, if_pos ⟨rfl, by rw [q1.1, q1.2]⟩]
      · rw [cp_u_at, if_neg (by omega), if_neg (fun z => by
          rcases z.2 with q | q
          · exact q1 q
          · exact q2 q)]
        rfl
  · rw [if_neg e, if_neg (fun z => e z.1)]
    rfl
theorem tq_o (hx : tw (I 47) n) (hn : n ≤ 6) (kn : Nat) {a b : Nat} (ha : a < 6) (hb : b < 6) : ∀ k, k ≤ (I 47 7).toNatClampNeg → (∀ j, j < k → ¬ (a = tua (I 47) j ∧ b = tub (I 47) j) ∧ ¬ (a = tub (I 47) j ∧ b = tua (I 47) j)) → rt (tqM I kn k) 56 a b = I 47 (22 + 6 * a + b)
  | 0, _, _ => tq_0 I kn ha hb
  | k + 1, hk, h => by
    obtain ⟨-, -, a3, a4, -⟩ := hx.2.2.1.1 k (by omega)
    rw [tq_s I kn k ha hb (by omega) (by omega), if_neg]
    · exact tq_o hx hn kn ha hb k (by omega) (fun j hj => h j (by omega))
    · rintro ⟨-, q | q⟩
      · exact (h k (by omega)).1 q
      · exact (h k (by omega)).2 q
theorem tq_y (hx : tw (I 47) n) (hn : n ≤ 6) (kn : Nat) : ∀ k, k ≤ (I 47 7).toNatClampNeg → ∀ a b, a < 6 → b < 6 → rt (tqM I kn k) 56 a b = rt (tqM I kn k) 56 b a
  | 0, _, a, b, ha, hb => by
    rw [tq_0 I kn ha hb, tq_0 I kn hb ha]
    exact (hx.2.1 a b ha hb).1
  | k + 1, hk, a, b, ha, hb => by
    obtain ⟨-, -, a3, a4, -⟩ := hx.2.2.1.1 k (by omega)
    rw [tq_s I kn k ha hb (by omega) (by omega), tq_s I kn k hb ha (by omega) (by omega), tq_y hx hn kn k (by omega) a b ha hb]
    by_cases q : kn.testBit k = true ∧ ((a = tua (I 47) k ∧ b = tub (I 47) k) ∨ (a = tub (I 47) k ∧ b = tua (I 47) k))
    · rw [if_pos q, if_pos ⟨q.1, by have := q.2; omega⟩]
    · rw [if_neg q, if_neg (fun z => q ⟨z.1, by have := z.2; omega⟩)]
theorem neg_c (a b : Int32) : -a + (a + b) = b := by rw [← Int32.add_assoc, Int32.add_left_neg, Int32.zero_add]
def dlt (I : cp_I) (kn S : Nat) (ch : Int32) (k : Nat) : Int32 := if (kn.testBit k && (S.testBit (tua (I 47) k) && S.testBit (tub (I 47) k))) = true then ch + I 47 (66 + 3 * k) else 0
theorem tq_D (hx : tw (I 47) n) (hn : n ≤ 6) (kn S : Nat) (ch : Int32) : ∀ k, k ≤ (I 47 7).toNatClampNeg → sD n (fm (rt (tqM I kn k) 56) S ch) = sD n (fm (rt (tqM I kn 0) 56) S ch) + Sg (dlt I kn S ch) k
  | 0, _ => (Int32.add_zero _).symm
  | k + 1, hk => by
    obtain ⟨a1, a2, a3, a4, a5, a6, a7, v, v1, v2, a8⟩ := hx.2.2.1.1 k (by omega)
    have hd := hx.2.2.1.2
    show sD n (fm (rt (tqM I kn (k + 1)) 56) S ch) = sD n (fm (rt (tqM I kn 0) 56) S ch) + (Sg (dlt I kn S ch) k + dlt I kn S ch k)
    rw [← Int32.add_assoc, ← tq_D hx hn kn S ch k (by omega)]
    have old : ∀ a b, a < 6 → b < 6 → ((a = tua (I 47) k ∧ b = tub (I 47) k) ∨ (a = tub (I 47) k ∧ b = tua (I 47) k)) → rt (tqM I kn k) 56 a b = 0 := fun a b ha hb hab => by
      rw [tq_o hx hn kn ha hb k (by omega) (fun j hj => ?_)]
      · rcases hab with ⟨rfl, rfl⟩ | ⟨rfl, rfl⟩
        · exact a7
        · rw [← (hx.2.1 (tua (I 47) k) (tub (I 47) k) (by omega) (by omega)).1]
          exact a7
      · have q := hd j k hj (by omega)
        rcases hab with ⟨rfl, rfl⟩ | ⟨rfl, rfl⟩
        · exact ⟨fun z => q.1 ⟨z.1.symm, z.2.symm⟩, fun z => q.2 ⟨z.2.symm, z.1.symm⟩⟩
        · exact ⟨fun z => q.2 ⟨z.1.symm, z.2.symm⟩, fun z => q.1 ⟨z.2.symm, z.1.symm⟩⟩
    by_cases e : kn.testBit k = true
    · have hv0 : ¬ I 47 (66 + 3 * k) = 0 := by rw [a8]; exact nI_ne0 (by omega) (by omega)
      refine sD_upd (x0 := min (tua (I 47) k) (tub (I 47) k)) (y0 := max (tua (I 47) k) (tub (I 47) k)) (by omega) (by omega) ?_ (fun a b hab hbn hne => ?_)
      · have hmm : (min (tua (I 47) k) (tub (I 47) k) = tua (I 47) k ∧ max (tua (I 47) k) (tub (I 47) k) = tub (I 47) k) ∨ (min (tua (I 47) k) (tub (I 47) k) = tub (I 47) k ∧ max (tua (I 47) k) (tub (I 47) k) = tua (I 47) k) := by omega
        have o := old _ _ (show min (tua (I 47) k) (tub (I 47) k) < 6 by omega) (show max (tua (I 47) k) (tub (I 47) k) < 6 by omega) hmm
        have nw := tq_s I kn k (show min (tua (I 47) k) (tub (I 47) k) < 6 by omega) (show max (tua (I 47) k) (tub (I 47) k) < 6 by omega) (by omega) (by omega)
        rw [if_pos ⟨e, hmm⟩] at nw
        unfold fm sp_pr dlt
        rw [o, nw, if_neg hv0, if_pos rfl, e, Bool.true_and]
        rcases hmm with ⟨m1, m2⟩ | ⟨m1, m2⟩
        · rw [m1, m2]
          by_cases q : S.testBit (tua (I 47) k) = true ∧ S.testBit (tub (I 47) k) = true
          · rw [if_pos q, if_pos q, if_pos (by simp [q]), neg_c]
          · rw [if_neg q, if_neg q, if_neg (by simpa using q), Int32.add_zero]
        · rw [m1, m2]
          by_cases q : S.testBit (tub (I 47) k) = true ∧ S.testBit (tua (I 47) k) = true
          · rw [if_pos q, if_pos q, if_pos (by simp [q]), neg_c]
          · rw [if_neg q, if_neg q, if_neg (by rw [Bool.and_eq_true]; exact fun z => q ⟨z.2, z.1⟩), Int32.add_zero]
      · have eq : rt (tqM I kn (k + 1)) 56 a b = rt (tqM I kn k) 56 a b := by
          rw [tq_s I kn k (show a < 6 by omega) (show b < 6 by omega) (by omega) (by omega), if_neg]
          rintro ⟨-, q⟩
          omega
        unfold fm sp_pr
        rw [eq]
    · unfold dlt
      rw [if_neg (show ¬ (kn.testBit k && (S.testBit (tua (I 47) k) && S.testBit (tub (I 47) k))) = true by simp [e]), Int32.add_zero]
      refine sD_cong (fun a b hab hbn => ?_)
      have eq : rt (tqM I kn (k + 1)) 56 a b = rt (tqM I kn k) 56 a b := by
        rw [tq_s I kn k (show a < 6 by omega) (show b < 6 by omega) (by omega) (by omega), if_neg (fun z => e z.1)]
      unfold fm sp_pr
      rw [eq]
end Sum
