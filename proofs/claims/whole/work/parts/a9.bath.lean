section Baths
variable {g : cp_G} {d : Nat} {I M N : cp_I} {J : cp_J} {Q : cp_QT} {t u r x n s m : Nat} {S : Nat → Bool}
/-! baths: all ways to part them, in their order -/
abbrev blT : Type := Nat × (Nat → Nat) × (Nat → Nat)
def bL : Nat → Nat → Nat → (Nat → Nat) → (Nat → Nat) → List blT
  | 0, _, used, mm, as => [(used, mm, as)]
  | f + 1, b, used, mm, as => (List.range' 0 (used + 1)).flatMap (fun k => bL f (b + 1) (max used (k + 1)) (updN mm k (mm k ||| 2 ^ b)) (updN as b k))
def bV (S : Nat → Bool) (l : blT) : Bool := sp_al (fun k => S (l.2.1 k)) l.1 0
theorem bL_ge : ∀ (f b used : Nat) (mm as : Nat → Nat) (l : blT), l ∈ bL f b used mm as → used ≤ l.1
  | 0, b, used, mm, as, l, h => by
    rw [bL, List.mem_singleton] at h
    subst h
    exact Nat.le_refl _
  | f + 1, b, used, mm, as, l, h => by
    rw [bL, List.mem_flatMap] at h
    obtain ⟨k, -, h2⟩ := h
    have := bL_ge f (b + 1) _ _ _ l h2
    omega
theorem bL_in : ∀ (f b used : Nat) (mm as : Nat → Nat) (l : blT), used ≤ b → (∀ j, j < b → as j < used) → (∀ k j, (mm k).testBit j = true ↔ j < b ∧ as j = k) → l ∈ bL f b used mm as → l.1 ≤ b + f ∧ (0 < b + f → 0 < used + f → 0 < l.1) ∧ (∀ j, j < b + f → l.2.2 j < l.1) ∧ ∀ k j, (l.2.1 k).testBit j = true ↔ j < b + f ∧ l.2.2 j = k
  | 0, b, used, mm, as, l, hu, ha, hm, h => by
    rw [bL, List.mem_singleton] at h
    subst h
    exact ⟨hu, fun _ h => h, ha, hm⟩
  | f + 1, b, used, mm, as, l, hu, ha, hm, h => by
    rw [bL, List.mem_flatMap] at h
    obtain ⟨k, hk, h2⟩ := h
    rw [List.mem_range'_1] at hk
    have hk' : k ≤ used := by omega
    obtain ⟨r1, r2, r3, r4⟩ := bL_in f (b + 1) (max used (k + 1)) _ _ l (by omega) (fun j hj => by
      unfold updN
      by_cases e : j = b
      · rw [if_pos e]
        omega
      · rw [if_neg e]
        have := ha j (by omega)
        omega) (fun k' j => by
      unfold updN
      by_cases e1 : k' = k
      · subst e1
        rw [if_pos rfl, Nat.testBit_or, Nat.testBit_two_pow, Bool.or_eq_true, hm, decide_eq_true_eq]
        by_cases e2 : j = b
        · subst e2
          simp
        · rw [if_neg e2]
          constructor
          · rintro (q | q)
            · exact ⟨by omega, q.2⟩
            · omega
          · rintro ⟨q1, q2⟩
            exact Or.inl ⟨by omega, q2⟩
      · rw [if_neg e1, hm]
        by_cases e2 : j = b
        · subst e2
          rw [if_pos rfl]
          constructor
          · rintro ⟨q, -⟩
            omega
          · rintro ⟨-, q⟩
            exact absurd q.symm e1
        · rw [if_neg e2]
          constructor
          · rintro ⟨q1, q2⟩
            exact ⟨by omega, q2⟩
          · rintro ⟨q1, q2⟩
            exact ⟨by omega, q2⟩) h2
    exact ⟨by omega, fun _ _ => r2 (by omega) (by omega), fun j hj => r3 j (by omega), fun k' j => by rw [r4, show b + 1 + f = b + (f + 1) by omega]⟩
theorem fiO_find {α : Type} {p : Nat → Option α} : ∀ (m k : Nat), fiO p m k = (List.range' k m).findSome? p
  | 0, _ => rfl
  | m + 1, k => by
    rw [List.range'_succ, List.findSome?_cons]
    show (match p k with | some a => some a | none => fiO p m (k + 1)) = _
    cases p k with
    | some a => rfl
    | none => exact fiO_find m (k + 1)
theorem fs_map {α β : Type} {p : Nat → Option α} {q : Nat → Option β} {h : β → α} : ∀ (l : List Nat), (∀ k, k ∈ l → p k = (q k).map h) → l.findSome? p = (l.findSome? q).map h
  | [], _ => rfl
  | k :: l, e => by
    rw [List.findSome?_cons, List.findSome?_cons, e k List.mem_cons_self]
    cases q k with
    | some b => rfl
    | none => exact fs_map l (fun k hk => e k (List.mem_cons_of_mem _ hk))
theorem fs_none {α : Type} {p : Nat → Option α} : ∀ (l : List Nat), (∀ k, k ∈ l → p k = none) → l.findSome? p = none
  | [], _ => rfl
  | k :: l, e => by
    rw [List.findSome?_cons, e k List.mem_cons_self]
    exact fs_none l (fun k hk => e k (List.mem_cons_of_mem _ hk))
theorem fs_app {α : Type} {p : Nat → Option α} : ∀ (l l' : List Nat), (∀ k, k ∈ l' → p k = none) → (l ++ l').findSome? p = l.findSome? p
  | [], l', h => fs_none l' h
  | k :: l, l', h => by
    rw [List.cons_append, List.findSome?_cons, List.findSome?_cons]
    cases p k with
    | some a => rfl
    | none => exact fs_app l l' h
theorem pf_L {many : Nat} : ∀ (f b used : Nat) (mm as : Nat → Nat), used ≤ many → sp_pf S many f b used mm = ((bL f b used mm as).find? (fun l => decide (l.1 ≤ many) && bV S l)).map (fun l => l.2.1)
  | 0, b, used, mm, as, hu => by
    rw [bL, List.find?_cons]
    show (if sp_al (fun k => S (mm k)) used 0 = true then some mm else none) = _
    have e : bV S (used, mm, as) = sp_al (fun k => S (mm k)) used 0 := rfl
    show _ = Option.map (fun l => l.2.1) (match decide (used ≤ many) && bV S (used, mm, as) with | true => some (used, mm, as) | false => List.find? (fun l => decide (l.1 ≤ many) && bV S l) [])
    rw [e, decide_eq_true hu, Bool.true_and]
    cases sp_al (fun k => S (mm k)) used 0 with
    | true => rfl
    | false => rfl
  | f + 1, b, used, mm, as, hu => by
    rw [bL, List.find?_flatMap]
    show fiO (fun k => sp_pf S many f (b + 1) (max used (k + 1)) (updN mm k (mm k ||| 2 ^ b))) (min (used + 1) many) 0 = _
    rw [fiO_find]
    have hno : ∀ k, used ≤ k → many < k + 1 → List.find? (fun l => decide (l.1 ≤ many) && bV S l) (bL f (b + 1) (max used (k + 1)) (updN mm k (mm k ||| 2 ^ b)) (updN as b k)) = none := fun k h1 h2 => by
      rw [List.find?_eq_none]
      intro l hl
      have := bL_ge _ _ _ _ _ l hl
      rw [decide_eq_false (show ¬ l.1 ≤ many by omega), Bool.false_and]
      exact Bool.false_ne_true
    have hsp : List.range' 0 (used + 1) = List.range' 0 (min (used + 1) many) ++ List.range' (min (used + 1) many) (used + 1 - min (used + 1) many) := by
      have := List.range'_append_1 (s := 0) (m := min (used + 1) many) (n := used + 1 - min (used + 1) many)
      rw [Nat.zero_add] at this
      rw [this]
      congr 1
      omega
    rw [hsp, fs_app _ _ (fun k hk => by
      rw [List.mem_range'_1] at hk
      exact hno k (by omega) (by omega))]
    refine fs_map _ (fun k hk => ?_)
    rw [List.mem_range'_1] at hk
    exact pf_L f (b + 1) (max used (k + 1)) _ _ (by omega)
def stp (S : Nat → Bool) (a : Nat × (Nat → Int32)) (l : blT) : Nat × (Nat → Int32) := if (decide (l.1 < a.1) && bV S l) = true then (l.1, fun j => nI (l.2.2 j)) else a
theorem stp_no : ∀ (L : List blT) (a : Nat × (Nat → Int32)), (∀ l, l ∈ L → a.1 ≤ l.1) → L.foldl (stp S) a = a
  | [], _, _ => rfl
  | l :: L, a, h => by
    have e : stp S a l = a := by
      unfold stp
      rw [decide_eq_false (show ¬ l.1 < a.1 by have := h l List.mem_cons_self; omega), Bool.false_and, if_neg Bool.false_ne_true]
    rw [List.foldl_cons, e]
    exact stp_no L a (fun l hl => h l (List.mem_cons_of_mem _ hl))
def sA (n : Nat) (a a' : Nat × (Nat → Int32)) : Prop := a.1 = a'.1 ∧ ∀ j, j < n → a.2 j = a'.2 j
theorem stp_A : ∀ (L : List blT) (a a' : Nat × (Nat → Int32)), sA n a a' → sA n (L.foldl (stp S) a) (L.foldl (stp S) a')
  | [], _, _, h => h
  | l :: L, a, a', h => by
    rw [List.foldl_cons, List.foldl_cons]
    refine stp_A L _ _ ?_
    unfold stp
    rw [h.1]
    by_cases e : (decide (l.1 < a'.1) && bV S l) = true
    · rw [if_pos e, if_pos e]
      exact ⟨rfl, fun _ _ => rfl⟩
    · rw [if_neg e, if_neg e]
      exact h
theorem al_fo {p : Nat → Bool} : ∀ (m k : Nat) (z : Bool), fo (fun k z => z && p k) m k z = (z && sp_al p m k)
  | 0, _, z => (Bool.and_true z).symm
  | m + 1, k, z => by
    show fo (fun k z => z && p k) m (k + 1) (z && p k) = (z && (p k && sp_al p m (k + 1)))
    rw [al_fo m (k + 1), Bool.and_assoc]
theorem bt_L (hn : n ≤ 6) : ∀ (f b used : Nat) (mm as : Nat → Nat) (q : tbT), b + f = n → (∀ j, j < b → q.2.1 j = nI (as j)) → sA n ((sp_bt S f b used mm q).1, (sp_bt S f b used mm q).2.2) ((bL f b used mm as).foldl (stp S) (q.1, q.2.2)) ∧ ∀ j, j < b → (sp_bt S f b used mm q).2.1 j = q.2.1 j
  | 0, b, used, mm, as, q, hb, hq => by
    rw [bL, List.foldl_cons, List.foldl_nil]
    have eb : bV S (used, mm, as) = sp_al (fun k => S (mm k)) used 0 := rfl
    have er : sp_bt S 0 b used mm q = if q.1 ≤ used then q else if fo (fun k z => z && S (mm k)) used 0 true = true then (used, q.2.1, cp6 q.2.1 q.2.2) else q := rfl
    rw [er]
    unfold stp
    rw [eb]
    by_cases e1 : q.1 ≤ used
    · rw [if_pos e1, decide_eq_false (show ¬ used < q.1 by omega), Bool.false_and, if_neg Bool.false_ne_true]
      exact ⟨⟨rfl, fun _ _ => rfl⟩, fun _ _ => rfl⟩
    · rw [if_neg e1, al_fo, Bool.true_and, decide_eq_true (show used < q.1 by omega), Bool.true_and]
      by_cases e2 : sp_al (fun k => S (mm k)) used 0 = true
      · rw [if_pos e2, if_pos e2]
        refine ⟨⟨rfl, fun j hj => ?_⟩, fun _ _ => rfl⟩
        show cp6 q.2.1 q.2.2 j = nI (as j)
        unfold cp6
        rw [if_pos (by omega)]
        exact hq j (by omega)
      · rw [if_neg e2, if_neg e2]
        exact ⟨⟨rfl, fun _ _ => rfl⟩, fun _ _ => rfl⟩
  | f + 1, b, used, mm, as, q, hb, hq => by
    have er : sp_bt S (f + 1) b used mm q = if q.1 ≤ used then q else fo (fun k q => sp_bt S f (b + 1) (if k = used then used + 1 else used) (updN mm k (mm k ||| 2 ^ b)) (q.1, upd q.2.1 b (nI k), q.2.2)) (used + 1) 0 q := rfl
    rw [er]
    by_cases e1 : q.1 ≤ used
    · rw [if_pos e1, stp_no _ _ (fun l hl => Nat.le_trans e1 (bL_ge _ _ _ _ _ l hl))]
      exact ⟨⟨rfl, fun _ _ => rfl⟩, fun _ _ => rfl⟩
    · rw [if_neg e1, bL, List.foldl_flatMap]
      have loop : ∀ (m k : Nat) (q' : tbT) (a : Nat × (Nat → Int32)), k + m = used + 1 → (∀ j, j < b → q'.2.1 j = nI (as j)) → sA n (q'.1, q'.2.2) a →
          sA n ((fo (fun k q => sp_bt S f (b + 1) (if k = used then used + 1 else used) (updN mm k (mm k ||| 2 ^ b)) (q.1, upd q.2.1 b (nI k), q.2.2)) m k q').1, (fo (fun k q => sp_bt S f (b + 1) (if k = used then used + 1 else used) (updN mm k (mm k ||| 2 ^ b)) (q.1, upd q.2.1 b (nI k), q.2.2)) m k q').2.2) ((List.range' k m).foldl (fun acc k => (bL f (b + 1) (max used (k + 1)) (updN mm k (mm k ||| 2 ^ b)) (updN as b k)).foldl (stp S) acc) a) ∧ ∀ j, j < b → (fo (fun k q => sp_bt S f (b + 1) (if k = used then used + 1 else used) (updN mm k (mm k ||| 2 ^ b)) (q.1, upd q.2.1 b (nI k), q.2.2)) m k q').2.1 j = q'.2.1 j := by
        intro m
        induction m with
        | zero =>
          intro k q' a _ _ h
          exact ⟨h, fun _ _ => rfl⟩
        | succ m ih =>
          intro k q' a hk h1 h2
          have eu : (if k = used then used + 1 else used) = max used (k + 1) := by
            by_cases e : k = used
            · rw [if_pos e]; omega
            · rw [if_neg e]; omega
          have st := bt_L hn f (b + 1) (max used (k + 1)) (updN mm k (mm k ||| 2 ^ b)) (updN as b k) (q'.1, upd q'.2.1 b (nI k), q'.2.2) (by omega) (fun j hj => by
            show upd q'.2.1 b (nI k) j = nI (updN as b k j)
            unfold updN
            by_cases e : j = b
            · subst e
              rw [pk_us, if_pos rfl]
            · rw [pk_un e, if_neg e]
              exact h1 j (by omega))
          have st2 : ∀ j, j < b → (sp_bt S f (b + 1) (max used (k + 1)) (updN mm k (mm k ||| 2 ^ b)) (q'.1, upd q'.2.1 b (nI k), q'.2.2)).2.1 j = q'.2.1 j := fun j hj => by
            rw [st.2 j (by omega)]
            exact pk_un (by omega)
          rw [List.range'_succ, List.foldl_cons]
          show sA n ((fo _ m (k + 1) (sp_bt S f (b + 1) (if k = used then used + 1 else used) (updN mm k (mm k ||| 2 ^ b)) (q'.1, upd q'.2.1 b (nI k), q'.2.2))).1, (fo _ m (k + 1) (sp_bt S f (b + 1) (if k = used then used + 1 else used) (updN mm k (mm k ||| 2 ^ b)) (q'.1, upd q'.2.1 b (nI k), q'.2.2))).2.2) _ ∧ ∀ j, j < b → (fo _ m (k + 1) (sp_bt S f (b + 1) (if k = used then used + 1 else used) (updN mm k (mm k ||| 2 ^ b)) (q'.1, upd q'.2.1 b (nI k), q'.2.2))).2.1 j = q'.2.1 j
          rw [eu]
          have nx := ih (k + 1) (sp_bt S f (b + 1) (max used (k + 1)) (updN mm k (mm k ||| 2 ^ b)) (q'.1, upd q'.2.1 b (nI k), q'.2.2)) ((bL f (b + 1) (max used (k + 1)) (updN mm k (mm k ||| 2 ^ b)) (updN as b k)).foldl (stp S) a) (by omega) (fun j hj => by rw [st2 j hj]; exact h1 j hj) (by
            have s2 := stp_A (S := S) (bL f (b + 1) (max used (k + 1)) (updN mm k (mm k ||| 2 ^ b)) (updN as b k)) _ _ h2
            exact ⟨st.1.1.trans s2.1, fun j hj => (st.1.2 j hj).trans (s2.2 j hj)⟩)
          exact ⟨nx.1, fun j hj => (nx.2 j hj).trans (st2 j hj)⟩
      exact loop (used + 1) 0 q (q.1, q.2.2) (by omega) hq ⟨rfl, fun _ _ => rfl⟩
theorem stp_min : ∀ (L : List blT) (a : Nat × (Nat → Int32)), ((L.foldl (stp S) a).1 = a.1 ∧ (L.foldl (stp S) a).2 = a.2 ∧ ∀ l, l ∈ L → bV S l = true → a.1 ≤ l.1) ∨ ((L.foldl (stp S) a).1 < a.1 ∧ (∀ l, l ∈ L → bV S l = true → (L.foldl (stp S) a).1 ≤ l.1) ∧ ∃ l, L.find? (fun l' => decide (l'.1 ≤ (L.foldl (stp S) a).1) && bV S l') = some l ∧ l.1 = (L.foldl (stp S) a).1 ∧ (L.foldl (stp S) a).2 = fun j => nI (l.2.2 j))
  | [], a => Or.inl ⟨rfl, rfl, fun l hl => absurd hl List.not_mem_nil⟩
  | l :: L, a => by
    rw [List.foldl_cons]
    by_cases e : (decide (l.1 < a.1) && bV S l) = true
    · have es : stp S a l = (l.1, fun j => nI (l.2.2 j)) := if_pos e
      rw [es]
      rw [Bool.and_eq_true, decide_eq_true_eq] at e
      rcases stp_min L (l.1, fun j => nI (l.2.2 j)) with ⟨r1, r2, r3⟩ | ⟨r1, r2, l', r3, r4, r5⟩
      · right
        rw [r1, r2]
        refine ⟨e.1, fun l' hl' hv => ?_, l, ?_, rfl, rfl⟩
        · rcases List.mem_cons.mp hl' with rfl | q
          · exact Nat.le_refl _
          · exact r3 l' q hv
        · rw [List.find?_cons, decide_eq_true (Nat.le_refl _), e.2]
          rfl
      · right
        have r1' : (L.foldl (stp S) (l.1, fun j => nI (l.2.2 j))).1 < l.1 := r1
        refine ⟨Nat.lt_trans r1' e.1, fun l2 hl2 hv => ?_, l', ?_, r4, r5⟩
        · rcases List.mem_cons.mp hl2 with rfl | q
          · exact Nat.le_of_lt r1'
          · exact r2 l2 q hv
        · rw [List.find?_cons, decide_eq_false (show ¬ l.1 ≤ (L.foldl (stp S) (l.1, fun j => nI (l.2.2 j))).1 by omega), Bool.false_and]
          exact r3
    · have es : stp S a l = a := if_neg e
      rw [es]
      have hh : bV S l = true → a.1 ≤ l.1 := fun hv => by
        rw [hv, Bool.and_true, decide_eq_true_eq] at e
        omega
      rcases stp_min L a with ⟨r1, r2, r3⟩ | ⟨r1, r2, l', r3, r4, r5⟩
      · left
        refine ⟨r1, r2, fun l2 hl2 hv => ?_⟩
        rcases List.mem_cons.mp hl2 with rfl | q
        · exact hh hv
        · exact r3 l2 q hv
      · right
        refine ⟨r1, fun l2 hl2 hv => ?_, l', ?_, r4, r5⟩
        · rcases List.mem_cons.mp hl2 with rfl | q
          · have := hh hv
            omega
          · exact r2 l2 q hv
        · rw [List.find?_cons]
          have hf : (decide (l.1 ≤ (L.foldl (stp S) a).1) && bV S l) = false := by
            cases hv : bV S l with
            | false => rw [Bool.and_false]
            | true =>
              have := hh hv
              rw [decide_eq_false (show ¬ l.1 ≤ (L.foldl (stp S) a).1 by omega), Bool.false_and]
          rw [hf]
          exact r3
end Baths
