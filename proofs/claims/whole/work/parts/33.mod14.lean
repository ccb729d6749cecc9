section Mod14
variable {g : cp_G} {d : Nat} {sh : cp_H} {I : cp_I} {J : cp_J} {P : cp_P} {Q : cp_QT} {t u r x : Nat}
theorem fo_congr {α : Type} {f h : Nat → α → α} : ∀ (m k : Nat) (a : α), (∀ j, k ≤ j → j < k + m → ∀ a, f j a = h j a) → fo f m k a = fo h m k a
  | 0, _, _, _ => rfl
  | m + 1, k, a, hh => by
    rw [fo, fo, hh k (Nat.le_refl _) (by omega)]
    exact fo_congr m (k + 1) _ (fun j h1 h2 => hh j (by omega) (by omega))
theorem sp_warm_congr {n : Nat} {w c : Int32} {ti ti' : sp_T} {s : Nat} (h : ∀ a, a < n → ∀ b, b < n → ti a b = ti' a b) : sp_warm n w c ti s = sp_warm n w c ti' s := by
  unfold sp_warm sp_sum
  congr 1
  refine fo_congr n 0 w (fun a _ ha z => fo_congr a 0 z (fun b _ hb z => ?_))
  unfold sp_row sp_pr
  rw [h a (by omega) b (by omega)]
theorem sp_fst_congr {p q : Nat → Bool} : ∀ (m k : Nat), (∀ j, k ≤ j → j < k + m → p j = q j) → sp_fst p m k = sp_fst q m k
  | 0, _, _ => rfl
  | m + 1, k, h => by
    rw [sp_fst, sp_fst, h k (Nat.le_refl _) (by omega), sp_fst_congr m (k + 1) (fun j h1 h2 => h j (by omega) (by omega))]
theorem fo_tr1_c {M : cp_I} (hM : ∀ j, M 47 j = I 47 j) (ua ub : Nat → Nat) (s : Nat) : ∀ (m k : Nat) (A B : cp_I), (∀ j, j < 39 → A 56 j = B 56 j) → ∀ j, j < 39 → fo (tr1 M ua ub s) m k A 56 j = fo (tr1 I ua ub s) m k B 56 j
  | 0, _, _, _, h => h
  | m + 1, k, A, B, h => by
    rw [fo, fo]
    refine fo_tr1_c hM ua ub s m (k + 1) _ _ (fun j hj => ?_)
    unfold tr1
    rw [hM]
    split
    · unfold cp_u
      rw [h j hj]
    · exact h j hj
theorem trm_c {M : cp_I} (hM : ∀ j, M 47 j = I 47 j) (um : Nat) (ua ub : Nat → Nat) (s : Nat) : ∀ j, j < 39 → trm M um ua ub s 56 j = trm I um ua ub s 56 j := by
  unfold trm
  refine fo_tr1_c hM ua ub s um 0 _ _ (fun j hj => ?_)
  unfold aT
  rw [hM]
  have e : (56 : Nat) = 56 ∧ j < 39 := ⟨rfl, hj⟩
  rw [if_pos e, if_pos e]
theorem wf_c {M : cp_I} {n : Nat} (hn6 : n ≤ 6) (hM : ∀ j, M 47 j = I 47 j) (um tm : Nat) (ua ub fs : Nat → Nat) (s : Nat) (c : Int32) : sp_wf (trm M um ua ub s) n tm fs c = sp_wf (trm I um ua ub s) n tm fs c := by
  unfold sp_wf
  refine sp_fst_congr tm 0 (fun j _ _ => ?_)
  have e : ∀ k, trm M um ua ub s 47 k = trm I um ua ub s 47 k := fun k => by rw [trm_o M um ua ub s (by omega), trm_o I um ua ub s (by omega), hM]
  rw [e, e, sp_warm_congr (ti := rt (trm M um ua ub s) 56) (ti' := rt (trm I um ua ub s) 56) (fun a ha b hb => trm_c hM um ua ub s (6 * a + b) (by omega))]
/-- a set of unsure pairs that fits -/
def rft (I : cp_I) (n um tm : Nat) (ua ub fs : Nat → Nat) (s : Nat) : Bool := (sp_wf (trm I um ua ub s) n tm fs (I 47 1)).isNone
theorem rft_c {M : cp_I} {n : Nat} (hn6 : n ≤ 6) (hM : ∀ j, M 47 j = I 47 j) (um tm : Nat) (ua ub fs : Nat → Nat) : rft M n um tm ua ub fs = rft I n um tm ua ub fs := by
  funext s
  unfold rft
  rw [hM, wf_c hn6 hM]
/-- what seekSets keeps: how many, the wanted one, in some, in all, how often -/
abbrev skT : Type := Nat × Int32 × Nat × Nat × (Nat → Nat)
def sk1 (F : Nat → Bool) (w : Int32) (s : Nat) (q : skT) : skT := if F s = true then (q.1 + 1, (if nI q.1 = w then nI s else q.2.1), q.2.2.1 ||| s, q.2.2.2.1 &&& s, fun k => q.2.2.2.2 k + (if s.testBit k = true then 1 else 0)) else q
def skF (I M : cp_I) (q : skT) : Prop := (∀ a j, a ≠ 56 → a ≠ 57 → ¬ (a = 44 ∧ (j = 31 ∨ j = 32 ∨ j = 33)) → M a j = I a j) ∧ M 44 31 = nI q.1 ∧ M 44 32 = nI q.2.2.1 ∧ M 44 33 = nI q.2.2.2.1 ∧ ∀ k, k < 4 → M 57 k = nI (q.2.2.2.2 k)
theorem lp_Mod_seekSets_124 {um s : Nat} {w f : Int32} {oft : Nat → Nat} (hum : um ≤ 4) (hs : s < 16) (h7 : I 47 7 = nI um) : ∀ (m k : Nat) (M : cp_I) (L : cp_Lo), k + m = um → (∀ a j, a ≠ 57 → M a j = I a j) → (∀ j, j < k → M 57 j = nI (oft j + (if s.testBit j = true then 1 else 0))) → (∀ j, k ≤ j → j < 4 → M 57 j = nI (oft j)) → L 0 = some (.ref 44) → L 1 = some (.int w) → L 2 = some (.int f) → L 3 = some (.int (nI s)) → L 4 = some (.int (nI k)) →
    (∀ (M' : cp_I) (L' : cp_Lo), (∀ a j, a ≠ 57 → M' a j = I a j) → (∀ j, j < um → M' 57 j = nI (oft j + (if s.testBit j = true then 1 else 0))) → (∀ j, um ≤ j → j < 4 → M' 57 j = nI (oft j)) → L' 0 = some (.ref 44) → L' 1 = some (.int w) → L' 2 = some (.int f) → L' 3 = some (.int (nI (s + 1))) → RW g false (d + 4) 0 0 m_Mod_seekSets 0 0 49 L' [] SH M' J (PP t u r x) Q) →
    RW g false (d + 4) 0 0 m_Mod_seekSets 0 0 124 L [] SH M J (PP t u r x) Q := by
  intro m
  induction m with
  | zero =>
    intro k M L hk hM h1 h2 l0 l1 l2 l3 l4 hx
    have c1 : nI um ≤ nI k := nI_le (by omega) (by omega)
    have h7M := hM 47 7 (by omega)
    rw [h7] at h7M
    refine cp_run 60 (fun t => t == 49 || t == 124) ck_Mod_seekSets ?_
    simp only [cp_vc, cp_vs, cp_jm, cp_ent_en, cp_en_int, cp_en_ref, cp_en_ret, cp_en_long, cp_en_nil, cp_s1_at, cp_s2_at, cp_nl_int, cp_nl_ref, cp_nl_long, cp_nl_none, cp_pop_0, cp_pop_s, reduceIte, if_true, if_false, Bool.false_eq_true, Bool.true_eq_false, false_implies, implies_true, forall_const, true_implies, true_and, and_true, and_self, true_or, or_true, false_or, or_false, Value.category, List.length_cons, List.length_nil, Option.toList_some, Option.toList_none, List.cons_append, List.nil_append, List.append_nil, Prod.mk.injEq, Nat.add_zero, Nat.zero_add, Nat.reduceAdd, Nat.reduceSub, Nat.reduceEqDiff, Nat.reduceLeDiff, Nat.reduceLT, Nat.le_refl, beq_self_eq_true, Nat.reduceBEq, ne_eq, not_true_eq_false, not_false_eq_true, Int32.reduceAdd, Int32.reduceSub, Int32.reduceMul, Int32.reduceLE, Int32.reduceLT, Int32.reduceToNatClampNeg, b01_0, b01_1, ne_2_0, ne_3_0, ne_4_0, ne_5_0, ne_6_0, ne_m1_0, ne_m2_0, b01_01, b01_n, lt_m2, lt_m1, le_m2, le_m1, Classical.not_not, Bool.or_false, Bool.false_or, Bool.true_or, Bool.or_true, j_Mod_seekSets_0, b_Mod_seekSets_0, j_Mod_seekSets_29, b_Mod_seekSets_29, j_Mod_seekSets_47, b_Mod_seekSets_47, j_Mod_seekSets_49, b_Mod_seekSets_49, j_Mod_seekSets_81, b_Mod_seekSets_81, j_Mod_seekSets_91, b_Mod_seekSets_91, j_Mod_seekSets_124, b_Mod_seekSets_124, j_Mod_seekSets_158, b_Mod_seekSets_158, j_Mod_seekSets_164, b_Mod_seekSets_164, j_Mod_seekSets_176, b_Mod_seekSets_176, an_0, an_1, an_4, an_7, cl_0, cl_1, cl_4, cl_7, ne_0_1, ne_0_4, ne_0_7, ne_0_m1, ne_0_m2, ne_1_0, ne_1_4, ne_1_7, ne_1_m1, ne_1_m2, ne_4_0, ne_4_1, ne_4_7, ne_4_m1, ne_4_m2, ne_7_0, ne_7_1, ne_7_4, ne_7_m1, ne_7_m2, ne_m1_0, ne_m1_1, ne_m1_4, ne_m1_7, ne_m1_m2, ne_m2_0, ne_m2_1, ne_m2_4, ne_m2_7, ne_m2_m1, pp_44_15, pp_44_30, sh_44, sh_47, sh_57, vi_0, vi_1, vi_4, vi_7, l0, l1, l2, l3, l4, h7M, c1, nI_1]
    rw [Nat.add_zero] at hk
    subst hk
    refine hx M _ hM h1 h2 ?_ ?_ ?_ ?_ <;> simp [cp_s1_at, cp_nl_int, cp_nl_ref, l0, l1, l2]
  | succ m ih =>
    intro k M L hk hM h1 h2 l0 l1 l2 l3 l4 hx
    have c1 : ¬ nI um ≤ nI k := nI_ge (by omega) (by omega)
    have h7M := hM 47 7 (by omega)
    rw [h7] at h7M
    have e1 := h2 k (Nat.le_refl _) (by omega)
    have hb := hb_val (show s < 64 by omega) (show k < 8 by omega)
    have eq : nI (oft k) + (if s.testBit k = true then (1 : Int32) else 0) = nI (oft k + (if s.testBit k = true then 1 else 0)) := by
      split
      · rw [nI_1]
      · rw [Int32.add_zero, Nat.add_zero]
    refine cp_run 60 (fun t => t == 49 || t == 124) ck_Mod_seekSets ?_
    simp only [cp_vc, cp_vs, cp_jm, cp_ent_en, cp_en_int, cp_en_ref, cp_en_ret, cp_en_long, cp_en_nil, cp_s1_at, cp_s2_at, cp_nl_int, cp_nl_ref, cp_nl_long, cp_nl_none, cp_pop_0, cp_pop_s, reduceIte, if_true, if_false, Bool.false_eq_true, Bool.true_eq_false, false_implies, implies_true, forall_const, true_implies, true_and, and_true, and_self, true_or, or_true, false_or, or_false, Value.category, List.length_cons, List.length_nil, Option.toList_some, Option.toList_none, List.cons_append, List.nil_append, List.append_nil, Prod.mk.injEq, Nat.add_zero, Nat.zero_add, Nat.reduceAdd, Nat.reduceSub, Nat.reduceEqDiff, Nat.reduceLeDiff, Nat.reduceLT, Nat.le_refl, beq_self_eq_true, Nat.reduceBEq, ne_eq, not_true_eq_false, not_false_eq_true, Int32.reduceAdd, Int32.reduceSub, Int32.reduceMul, Int32.reduceLE, Int32.reduceLT, Int32.reduceToNatClampNeg, b01_0, b01_1, ne_2_0, ne_3_0, ne_4_0, ne_5_0, ne_6_0, ne_m1_0, ne_m2_0, b01_01, b01_n, lt_m2, lt_m1, le_m2, le_m1, Classical.not_not, Bool.or_false, Bool.false_or, Bool.true_or, Bool.or_true, j_Mod_seekSets_0, b_Mod_seekSets_0, j_Mod_seekSets_29, b_Mod_seekSets_29, j_Mod_seekSets_47, b_Mod_seekSets_47, j_Mod_seekSets_49, b_Mod_seekSets_49, j_Mod_seekSets_81, b_Mod_seekSets_81, j_Mod_seekSets_91, b_Mod_seekSets_91, j_Mod_seekSets_124, b_Mod_seekSets_124, j_Mod_seekSets_158, b_Mod_seekSets_158, j_Mod_seekSets_164, b_Mod_seekSets_164, j_Mod_seekSets_176, b_Mod_seekSets_176, an_0, an_1, an_4, an_7, cl_0, cl_1, cl_4, cl_7, ne_0_1, ne_0_4, ne_0_7, ne_0_m1, ne_0_m2, ne_1_0, ne_1_4, ne_1_7, ne_1_m1, ne_1_m2, ne_4_0, ne_4_1, ne_4_7, ne_4_m1, ne_4_m2, ne_7_0, ne_7_1, ne_7_4, ne_7_m1, ne_7_m2, ne_m1_0, ne_m1_1, ne_m1_4, ne_m1_7, ne_m1_m2, ne_m2_0, ne_m2_1, ne_m2_4, ne_m2_7, ne_m2_m1, pp_44_15, pp_44_30, sh_44, sh_47, sh_57, vi_0, vi_1, vi_4, vi_7, l0, l1, l2, l3, l4, h7M, c1, nI_1, vin (show k < 4 by omega) (by omega), ncl (show k < 1000 by omega), e1, hb, eq]
    refine ih (k + 1) _ _ (by omega) (fun a j ha => ?_) (fun j hj => ?_) (fun j hj1 hj2 => ?_) ?_ ?_ ?_ ?_ ?_ hx
    · rw [← hM a j ha]
      simp [cp_u, ha]
    · rw [cp_u_at]
      by_cases z : j = k
      · subst z
        rw [if_pos ⟨rfl, rfl⟩]
      · rw [if_neg (fun q => z q.2)]
        exact h1 j (by omega)
    · rw [cp_u_at, if_neg (fun q => by omega)]
      exact h2 j (by omega) hj2
    all_goals simp [cp_s1_at, cp_nl_int, cp_nl_ref, l0, l1, l2, l3]
theorem oI_m2 {o : Option Nat} (h : ∀ k, o = some k → k < 1000) : (oI o = -2) = (o.isNone = true) := by
  cases o with
  | none => simp [oI]
  | some k =>
    have hk := h k rfl
    simp [oI]
    intro q
    have := nI_pos (n := k) (by omega)
    rw [q] at this
    exact this (by decide)
theorem sp_fst_lt {p : Nat → Bool} : ∀ (m k j : Nat), sp_fst p m k = some j → j < k + m
  | 0, _, _, h => by cases h
  | m + 1, k, j, h => by
    rw [sp_fst] at h
    split at h
    · cases h
      omega
    · have := sp_fst_lt m (k + 1) j h
      omega
theorem lp_Mod_seekSets_49 {n um tm : Nat} {ua ub fs : Nat → Nat} {w : Int32} (hn6 : n ≤ 6) (hn : I 47 4 = nI n) (hU : rU I um tm ua ub fs) : ∀ (m k : Nat) (q : skT) (M : cp_I) (L : cp_Lo), k + m = 2 ^ um → skF I M q → q.1 ≤ k → q.2.2.1 < 16 → q.2.2.2.1 < 16 → L 0 = some (.ref 44) → L 1 = some (.int w) → L 2 = some (.int q.2.1) → L 3 = some (.int (nI k)) →
    (∀ M', skF I M' ((fo (sk1 (rft I n um tm ua ub fs) w) m k q).1, (fo (sk1 (rft I n um tm ua ub fs) w) m k q).2.1, (fo (sk1 (rft I n um tm ua ub fs) w) m k q).2.2.1, (if (fo (sk1 (rft I n um tm ua ub fs) w) m k q).1 = 0 then 0 else (fo (sk1 (rft I n um tm ua ub fs) w) m k q).2.2.2.1), (fo (sk1 (rft I n um tm ua ub fs) w) m k q).2.2.2.2) → Q (some (.int (fo (sk1 (rft I n um tm ua ub fs) w) m k q).2.1)) SH M' J (PP t u r x)) →
    RW g false (d + 4) 0 0 m_Mod_seekSets 0 0 49 L [] SH M J (PP t u r x) Q := by
  intro m
  obtain ⟨⟨h7, hum⟩, ⟨h8, htm⟩, -, -⟩ := id hU
  have h16 : 2 ^ um ≤ 16 := Nat.le_trans (Nat.pow_le_pow_right (n := 2) (by omega) hum) (by decide)
  induction m with
  | zero =>
    intro k q M L hk hF hqk hsm hal l0 l1 l2 l3 hx
    obtain ⟨f0, f1, f2, f3, f4⟩ := hF
    have h7M := f0 47 7 (by omega) (by omega) (by omega)
    rw [h7] at h7M
    rw [Nat.add_zero] at hk
    have c1 : nI (2 ^ um) ≤ nI k := nI_le (by omega) (by omega)
    have e0 := eqN (show q.1 < 1000 by omega) (show 0 < 1000 by omega)
    rw [nI_0] at e0
    rw [fo] at hx
    refine cp_run 60 (fun t => t == 49 || t == 124) ck_Mod_seekSets ?_
    simp only [cp_vc, cp_vs, cp_jm, cp_ent_en, cp_en_int, cp_en_ref, cp_en_ret, cp_en_long, cp_en_nil, cp_s1_at, cp_s2_at, cp_nl_int, cp_nl_ref, cp_nl_long, cp_nl_none, cp_pop_0, cp_pop_s, reduceIte, if_true, if_false, Bool.false_eq_true, Bool.true_eq_false, false_implies, implies_true, forall_const, true_implies, true_and, and_true, and_self, true_or, or_true, false_or, or_false, Value.category, List.length_cons, List.length_nil, Option.toList_some, Option.toList_none, List.cons_append, List.nil_append, List.append_nil, Prod.mk.injEq, Nat.add_zero, Nat.zero_add, Nat.reduceAdd, Nat.reduceSub, Nat.reduceEqDiff, Nat.reduceLeDiff, Nat.reduceLT, Nat.le_refl, beq_self_eq_true, Nat.reduceBEq, ne_eq, not_true_eq_false, not_false_eq_true, Int32.reduceAdd, Int32.reduceSub, Int32.reduceMul, Int32.reduceLE, Int32.reduceLT, Int32.reduceToNatClampNeg, b01_0, b01_1, ne_2_0, ne_3_0, ne_4_0, ne_5_0, ne_6_0, ne_m1_0, ne_m2_0, b01_01, b01_n, lt_m2, lt_m1, le_m2, le_m1, Classical.not_not, Bool.or_false, Bool.false_or, Bool.true_or, Bool.or_true, j_Mod_seekSets_0, b_Mod_seekSets_0, j_Mod_seekSets_29, b_Mod_seekSets_29, j_Mod_seekSets_47, b_Mod_seekSets_47, j_Mod_seekSets_49, b_Mod_seekSets_49, j_Mod_seekSets_81, b_Mod_seekSets_81, j_Mod_seekSets_91, b_Mod_seekSets_91, j_Mod_seekSets_124, b_Mod_seekSets_124, j_Mod_seekSets_158, b_Mod_seekSets_158, j_Mod_seekSets_164, b_Mod_seekSets_164, j_Mod_seekSets_176, b_Mod_seekSets_176, an_0, an_1, an_4, an_7, cl_0, cl_1, cl_4, cl_7, ne_0_1, ne_0_4, ne_0_7, ne_0_m1, ne_0_m2, ne_1_0, ne_1_4, ne_1_7, ne_1_m1, ne_1_m2, ne_4_0, ne_4_1, ne_4_7, ne_4_m1, ne_4_m2, ne_7_0, ne_7_1, ne_7_4, ne_7_m1, ne_7_m2, ne_m1_0, ne_m1_1, ne_m1_4, ne_m1_7, ne_m1_m2, ne_m2_0, ne_m2_1, ne_m2_4, ne_m2_7, ne_m2_m1, pp_44_15, pp_44_30, sh_44, sh_47, sh_57, vi_0, vi_1, vi_4, vi_7, l0, l1, l2, l3, h7M, c1, sh1 (show um < 8 by omega), f1, e0]
    refine ⟨fun z => hx M ?_, fun z => hx _ ?_⟩
    · rw [if_neg z]
      exact ⟨f0, f1, f2, f3, f4⟩
    · rw [if_pos z]
      refine ⟨fun a j h1 h2 h3 => ?_, ?_, ?_, ?_, fun k hk => ?_⟩
      · rw [cp_u_at, if_neg (fun y => h3 ⟨y.1, Or.inr (Or.inr y.2)⟩)]
        exact f0 a j h1 h2 h3
      · simpa [cp_u] using f1
      · simpa [cp_u] using f2
      · simp [cp_u, nI_0]
      · simpa [cp_u] using f4 k hk
  | succ m ih =>
    intro k q M L hk hF hqk hsm hal l0 l1 l2 l3 hx
    obtain ⟨f0, f1, f2, f3, f4⟩ := id hF
    have hM47 : ∀ j, M 47 j = I 47 j := fun j => f0 47 j (by omega) (by omega) (by omega)
    have h7M := hM47 7
    rw [h7] at h7M
    have hk16 : k < 16 := by omega
    have c1 : ¬ nI (2 ^ um) ≤ nI k := nI_ge (by omega) (by omega)
    rw [fo] at hx
    refine cp_run 60 (fun t => t == 49 || t == 124) ck_Mod_seekSets ?_
    simp only [cp_vc, cp_vs, cp_jm, cp_ent_en, cp_en_int, cp_en_ref, cp_en_ret, cp_en_long, cp_en_nil, cp_s1_at, cp_s2_at, cp_nl_int, cp_nl_ref, cp_nl_long, cp_nl_none, cp_pop_0, cp_pop_s, reduceIte, if_true, if_false, Bool.false_eq_true, Bool.true_eq_false, false_implies, implies_true, forall_const, true_implies, true_and, and_true, and_self, true_or, or_true, false_or, or_false, Value.category, List.length_cons, List.length_nil, Option.toList_some, Option.toList_none, List.cons_append, List.nil_append, List.append_nil, Prod.mk.injEq, Nat.add_zero, Nat.zero_add, Nat.reduceAdd, Nat.reduceSub, Nat.reduceEqDiff, Nat.reduceLeDiff, Nat.reduceLT, Nat.le_refl, beq_self_eq_true, Nat.reduceBEq, ne_eq, not_true_eq_false, not_false_eq_true, Int32.reduceAdd, Int32.reduceSub, Int32.reduceMul, Int32.reduceLE, Int32.reduceLT, Int32.reduceToNatClampNeg, b01_0, b01_1, ne_2_0, ne_3_0, ne_4_0, ne_5_0, ne_6_0, ne_m1_0, ne_m2_0, b01_01, b01_n, lt_m2, lt_m1, le_m2, le_m1, Classical.not_not, Bool.or_false, Bool.false_or, Bool.true_or, Bool.or_true, j_Mod_seekSets_0, b_Mod_seekSets_0, j_Mod_seekSets_29, b_Mod_seekSets_29, j_Mod_seekSets_47, b_Mod_seekSets_47, j_Mod_seekSets_49, b_Mod_seekSets_49, j_Mod_seekSets_81, b_Mod_seekSets_81, j_Mod_seekSets_91, b_Mod_seekSets_91, j_Mod_seekSets_124, b_Mod_seekSets_124, j_Mod_seekSets_158, b_Mod_seekSets_158, j_Mod_seekSets_164, b_Mod_seekSets_164, j_Mod_seekSets_176, b_Mod_seekSets_176, an_0, an_1, an_4, an_7, cl_0, cl_1, cl_4, cl_7, ne_0_1, ne_0_4, ne_0_7, ne_0_m1, ne_0_m2, ne_1_0, ne_1_4, ne_1_7, ne_1_m1, ne_1_m2, ne_4_0, ne_4_1, ne_4_7, ne_4_m1, ne_4_m2, ne_7_0, ne_7_1, ne_7_4, ne_7_m1, ne_7_m2, ne_m1_0, ne_m1_1, ne_m1_4, ne_m1_7, ne_m1_m2, ne_m2_0, ne_m2_1, ne_m2_4, ne_m2_7, ne_m2_m1, pp_44_15, pp_44_30, sh_44, sh_47, sh_57, vi_0, vi_1, vi_4, vi_7, l0, l1, l2, l3, h7M, c1, sh1 (show um < 8 by omega), hM47]
    refine c_Mod_wrongFelt hn6 (by rw [hM47]; exact hn) (rU_c hM47 hU) (by omega) ?_
    rw [wf_c hn6 hM47]
    have eN := oI_m2 (o := sp_wf (trm I um ua ub k) n tm fs (I 47 1)) (fun j hj => by have := sp_fst_lt _ _ _ hj; omega)
    have t31 := trm_o M um ua ub k (show (44 : Nat) ≠ 56 by omega) 31
    have t32 := trm_o M um ua ub k (show (44 : Nat) ≠ 56 by omega) 32
    have t33 := trm_o M um ua ub k (show (44 : Nat) ≠ 56 by omega) 33
    rw [f1] at t31
    rw [f2] at t32
    rw [f3] at t33
    simp only [cp_kk, cp_vc, cp_vs, cp_jm, cp_ent_en, cp_en_int, cp_en_ref, cp_en_ret, cp_en_long, cp_en_nil, cp_s1_at, cp_s2_at, cp_nl_int, cp_nl_ref, cp_nl_long, cp_nl_none, cp_pop_0, cp_pop_s, reduceIte, if_true, if_false, Bool.false_eq_true, Bool.true_eq_false, false_implies, implies_true, forall_const, true_implies, true_and, and_true, and_self, true_or, or_true, false_or, or_false, Value.category, List.length_cons, List.length_nil, Option.toList_some, Option.toList_none, List.cons_append, List.nil_append, List.append_nil, Prod.mk.injEq, Nat.add_zero, Nat.zero_add, Nat.reduceAdd, Nat.reduceSub, Nat.reduceEqDiff, Nat.reduceLeDiff, Nat.reduceLT, Nat.le_refl, beq_self_eq_true, Nat.reduceBEq, ne_eq, not_true_eq_false, not_false_eq_true, Int32.reduceAdd, Int32.reduceSub, Int32.reduceMul, Int32.reduceLE, Int32.reduceLT, Int32.reduceToNatClampNeg, b01_0, b01_1, ne_2_0, ne_3_0, ne_4_0, ne_5_0, ne_6_0, ne_m1_0, ne_m2_0, b01_01, b01_n, lt_m2, lt_m1, le_m2, le_m1, Classical.not_not, Bool.or_false, Bool.false_or, Bool.true_or, Bool.or_true, j_Mod_seekSets_0, b_Mod_seekSets_0, j_Mod_seekSets_29, b_Mod_seekSets_29, j_Mod_seekSets_47, b_Mod_seekSets_47, j_Mod_seekSets_49, b_Mod_seekSets_49, j_Mod_seekSets_81, b_Mod_seekSets_81, j_Mod_seekSets_91, b_Mod_seekSets_91, j_Mod_seekSets_124, b_Mod_seekSets_124, j_Mod_seekSets_158, b_Mod_seekSets_158, j_Mod_seekSets_164, b_Mod_seekSets_164, j_Mod_seekSets_176, b_Mod_seekSets_176, an_0, an_1, an_4, an_7, cl_0, cl_1, cl_4, cl_7, ne_0_1, ne_0_4, ne_0_7, ne_0_m1, ne_0_m2, ne_1_0, ne_1_4, ne_1_7, ne_1_m1, ne_1_m2, ne_4_0, ne_4_1, ne_4_7, ne_4_m1, ne_4_m2, ne_7_0, ne_7_1, ne_7_4, ne_7_m1, ne_7_m2, ne_m1_0, ne_m1_1, ne_m1_4, ne_m1_7, ne_m1_m2, ne_m2_0, ne_m2_1, ne_m2_4, ne_m2_7, ne_m2_m1, pp_44_15, pp_44_30, sh_44, sh_47, sh_57, vi_0, vi_1, vi_4, vi_7, l0, l1, l2, l3, eN, t31, t32, t33, cp_u_at, nI_1, or_nI (show q.2.2.1 < 64 by omega) (show k < 64 by omega), and_nI (show q.2.2.2.1 < 64 by omega) (show k < 64 by omega)]
    have go : ∀ (f' : Int32) (L1 : cp_Lo), rft I n um tm ua ub fs k = true → f' = (if nI q.1 = w then nI k else q.2.1) → L1 0 = some (.ref 44) → L1 1 = some (.int w) → L1 2 = some (.int f') → L1 3 = some (.int (nI k)) → L1 4 = some (.int (nI 0)) → RW g false (d + 4) 0 0 m_Mod_seekSets 0 0 124 L1 [] SH (cp_u (cp_u (cp_u (trm M um ua ub k) 44 31 (nI (q.1 + 1))) 44 32 (nI (q.2.2.1 ||| k))) 44 33 (nI (q.2.2.2.1 &&& k))) J (PP t u r x) Q := by
      intro f' L1 hfit hf' b0 b1 b2 b3 b4
      have e : sk1 (rft I n um tm ua ub fs) w k q = (q.1 + 1, f', q.2.2.1 ||| k, q.2.2.2.1 &&& k, fun j => q.2.2.2.2 j + (if k.testBit j = true then 1 else 0)) := by rw [sk1, if_pos hfit, hf']
      rw [e] at hx
      have m57 : ∀ j, cp_u (cp_u (cp_u (trm M um ua ub k) 44 31 (nI (q.1 + 1))) 44 32 (nI (q.2.2.1 ||| k))) 44 33 (nI (q.2.2.2.1 &&& k)) 57 j = M 57 j := fun j => by
        rw [← trm_o M um ua ub k (show (57 : Nat) ≠ 56 by omega) j]
        simp [cp_u]
      have m47 : cp_u (cp_u (cp_u (trm M um ua ub k) 44 31 (nI (q.1 + 1))) 44 32 (nI (q.2.2.1 ||| k))) 44 33 (nI (q.2.2.2.1 &&& k)) 47 7 = nI um := by
        rw [← h7M, ← trm_o M um ua ub k (show (47 : Nat) ≠ 56 by omega) 7]
        simp [cp_u]
      refine lp_Mod_seekSets_124 (oft := q.2.2.2.2) (f := f') (w := w) hum hk16 m47 um 0 _ L1 (by omega) (fun _ _ _ => rfl) (fun j hj => by omega) (fun j _ hj => by rw [m57]; exact f4 j hj) b0 b1 b2 b3 b4 (fun M' L' g1 g2 g3 d0 d1 d2 d3 => ih (k + 1) _ M' L' (by omega) ⟨fun a j h1 h2 h3 => ?_, ?_, ?_, ?_, fun j hj => ?_⟩ ?_ ?_ ?_ d0 d1 d2 d3 hx)
      · rw [g1 a j h2, cp_u_at, if_neg (fun y => h3 ⟨y.1, Or.inr (Or.inr y.2)⟩), cp_u_at, if_neg (fun y => h3 ⟨y.1, Or.inr (Or.inl y.2)⟩), cp_u_at, if_neg (fun y => h3 ⟨y.1, Or.inl y.2⟩), trm_o M um ua ub k h1]
        exact f0 a j h1 h2 h3
      · rw [g1 44 31 (by omega)]
        simp [cp_u]
      · rw [g1 44 32 (by omega)]
        simp [cp_u]
      · rw [g1 44 33 (by omega)]
        simp [cp_u]
      · rcases Nat.lt_or_ge j um with z | z
        · exact g2 j z
        · have hb : k.testBit j = false := Nat.testBit_lt_two_pow (Nat.lt_of_lt_of_le (show k < 2 ^ um by omega) (Nat.pow_le_pow_right (by omega) z))
          rw [g3 j z hj]
          simp [hb]
      · show q.1 + 1 ≤ k + 1
        omega
      · exact Nat.or_lt_two_pow (n := 4) hsm hk16
      · exact Nat.lt_of_le_of_lt Nat.and_le_left hal
    refine ⟨fun b1 => ⟨fun b2 => go q.2.1 _ b1 (by rw [if_neg b2]) ?_ ?_ ?_ ?_ ?_, fun b2 => go (nI k) _ b1 (by rw [if_pos b2]) ?_ ?_ ?_ ?_ ?_⟩, fun b1 => ?_⟩
    case refine_11 =>
      have e : sk1 (rft I n um tm ua ub fs) w k q = q := if_neg b1
      rw [e] at hx
      refine ih (k + 1) q _ _ (by omega) ⟨fun a j h1 h2 h3 => ?_, ?_, ?_, ?_, fun j hj => ?_⟩ (by omega) hsm hal ?_ ?_ ?_ ?_ hx
      · rw [trm_o M um ua ub k h1]
        exact f0 a j h1 h2 h3
      · exact t31
      · exact t32
      · exact t33
      · rw [trm_o M um ua ub k (by omega)]
        exact f4 j hj
      all_goals simp [cp_s1_at, cp_nl_int, cp_nl_ref, l0, l1, l2]
    all_goals simp [cp_s1_at, cp_nl_int, cp_nl_ref, l0, l1, l2, l3, nI_0]
/-- seekSets' end -/
def sk (I : cp_I) (n um tm : Nat) (ua ub fs : Nat → Nat) (w : Int32) : skT := fo (sk1 (rft I n um tm ua ub fs) w) (2 ^ um) 0 (0, -1, 0, 2 ^ um - 1, fun _ => 0)
def skE (q : skT) : skT := (q.1, q.2.1, q.2.2.1, (if q.1 = 0 then 0 else q.2.2.2.1), q.2.2.2.2)
set_option maxRecDepth 20000 in
theorem c_Mod_seekSets {n um tm : Nat} {ua ub fs : Nat → Nat} {w : Int32} (hn6 : n ≤ 6) (hn : I 47 4 = nI n) (hU : rU I um tm ua ub fs) (h : ∀ M, skF I M (skE (sk I n um tm ua ub fs w)) → Q (some (.int (sk I n um tm ua ub fs w).2.1)) SH M J (PP t u r x)) : MW g false (d + 4) 0 0 m_Mod_seekSets [.ref 44, .int w] SH I J (PP t u r x) Q := by
  refine MW.of ok_Mod_seekSets (Nat.le_of_ble_eq_true rfl) ?_
  obtain ⟨⟨h7, hum⟩, -, -, -⟩ := id hU
  have h16 : 2 ^ um ≤ 16 := Nat.le_trans (Nat.pow_le_pow_right (n := 2) (by omega) hum) (by decide)
  have hp := pwp um
  refine cp_run 200 (fun t => t == 49 || t == 124) ck_Mod_seekSets ?_
  simp only [cp_vc, cp_vs, cp_jm, cp_ent_en, cp_en_int, cp_en_ref, cp_en_ret, cp_en_long, cp_en_nil, cp_s1_at, cp_s2_at, cp_nl_int, cp_nl_ref, cp_nl_long, cp_nl_none, cp_pop_0, cp_pop_s, reduceIte, if_true, if_false, Bool.false_eq_true, Bool.true_eq_false, false_implies, implies_true, forall_const, true_implies, true_and, and_true, and_self, true_or, or_true, false_or, or_false, Value.category, List.length_cons, List.length_nil, Option.toList_some, Option.toList_none, List.cons_append, List.nil_append, List.append_nil, Prod.mk.injEq, Nat.add_zero, Nat.zero_add, Nat.reduceAdd, Nat.reduceSub, Nat.reduceEqDiff, Nat.reduceLeDiff, Nat.reduceLT, Nat.le_refl, beq_self_eq_true, Nat.reduceBEq, ne_eq, not_true_eq_false, not_false_eq_true, Int32.reduceAdd, Int32.reduceSub, Int32.reduceMul, Int32.reduceLE, Int32.reduceLT, Int32.reduceToNatClampNeg, b01_0, b01_1, ne_2_0, ne_3_0, ne_4_0, ne_5_0, ne_6_0, ne_m1_0, ne_m2_0, b01_01, b01_n, lt_m2, lt_m1, le_m2, le_m1, Classical.not_not, Bool.or_false, Bool.false_or, Bool.true_or, Bool.or_true, j_Mod_seekSets_0, b_Mod_seekSets_0, j_Mod_seekSets_29, b_Mod_seekSets_29, j_Mod_seekSets_47, b_Mod_seekSets_47, j_Mod_seekSets_49, b_Mod_seekSets_49, j_Mod_seekSets_81, b_Mod_seekSets_81, j_Mod_seekSets_91, b_Mod_seekSets_91, j_Mod_seekSets_124, b_Mod_seekSets_124, j_Mod_seekSets_158, b_Mod_seekSets_158, j_Mod_seekSets_164, b_Mod_seekSets_164, j_Mod_seekSets_176, b_Mod_seekSets_176, an_0, an_1, an_4, an_7, cl_0, cl_1, cl_4, cl_7, ne_0_1, ne_0_4, ne_0_7, ne_0_m1, ne_0_m2, ne_1_0, ne_1_4, ne_1_7, ne_1_m1, ne_1_m2, ne_4_0, ne_4_1, ne_4_7, ne_4_m1, ne_4_m2, ne_7_0, ne_7_1, ne_7_4, ne_7_m1, ne_7_m2, ne_m1_0, ne_m1_1, ne_m1_4, ne_m1_7, ne_m1_m2, ne_m2_0, ne_m2_1, ne_m2_4, ne_m2_7, ne_m2_m1, pp_44_15, pp_44_30, sh_44, sh_47, sh_57, vi_0, vi_1, vi_4, vi_7, cp_u_at, h7, all_nI (show um ≤ 6 by omega), vi_2, vi_3, cl_2, cl_3]
  refine lp_Mod_seekSets_49 hn6 hn hU (2 ^ um) 0 (0, -1, 0, 2 ^ um - 1, fun _ => 0) _ _ (by omega) ⟨fun a j h1 h2 h3 => ?_, ?_, ?_, ?_, fun k hk => ?_⟩ (by show 0 ≤ 0; omega) (by show 0 < 16; omega) (by show 2 ^ um - 1 < 16; omega) ?_ ?_ ?_ ?_ h
  · simp only [not_and, not_or] at h3
    by_cases z : a = 44
    · have := h3 z
      simp [cp_u, h2, z, this]
    · simp [cp_u, h2, z]
  · simp [cp_u, nI_0]
  · simp [cp_u, nI_0]
  · simp [cp_u]
  · rcases (show k = 0 ∨ k = 1 ∨ k = 2 ∨ k = 3 by omega) with rfl | rfl | rfl | rfl <;> simp [cp_u, nI_0]
  all_goals simp [cp_s1_at, cp_ent_en, cp_en_int, cp_en_ref, cp_nl_int, cp_nl_ref, nI_0]
/-! calls of the face: what was felt -/
theorem rU_gd {um tm : Nat} {ua ub fs : Nat → Nat} (hU : rU I um tm ua ub fs) : rU (gd I) um tm ua ub fs := rU_c (fun j => gd47 I j) hU
theorem sk_gd (I : cp_I) {n : Nat} (hn6 : n ≤ 6) (um tm : Nat) (ua ub fs : Nat → Nat) (w : Int32) : sk (gd I) n um tm ua ub fs w = sk I n um tm ua ub fs w := by
  unfold sk
  rw [rft_c hn6 (fun j => gd47 I j)]
theorem c_Mod_fits {n um tm : Nat} {ua ub fs : Nat → Nat} (hn6 : n ≤ 6) (hn : I 47 4 = nI n) (hU : rU I um tm ua ub fs) (h1 : ¬ I 44 14 = 0 → ∀ M, skF (gd I) M (skE (sk I n um tm ua ub fs (-1))) → Q (some (.int (nI (sk I n um tm ua ub fs (-1)).1))) SH M J (PP t u r x)) (h0 : I 44 14 = 0 → Q (some (.int (-1))) SH (cp_u (gd I) 44 11 1) J (PP t u r x)) : MW g false (d + 5) 0 0 m_Mod_fits [.ref 44] SH I J (PP t u r x) Q := by
  refine MW.of ok_Mod_fits (Nat.le_of_ble_eq_true rfl) ?_
  refine cp_run 30 (fun _ => false) ck_Mod_fits ?_
  simp only [cp_vc, cp_vs, cp_jm, cp_ent_en, cp_en_int, cp_en_ref, cp_en_ret, cp_en_long, cp_en_nil, cp_s1_at, cp_s2_at, cp_nl_int, cp_nl_ref, cp_nl_long, cp_nl_none, cp_pop_0, cp_pop_s, reduceIte, if_true, if_false, Bool.false_eq_true, Bool.true_eq_false, false_implies, implies_true, forall_const, true_implies, true_and, and_true, and_self, true_or, or_true, false_or, or_false, Value.category, List.length_cons, List.length_nil, Option.toList_some, Option.toList_none, List.cons_append, List.nil_append, List.append_nil, Prod.mk.injEq, Nat.add_zero, Nat.zero_add, Nat.reduceAdd, Nat.reduceSub, Nat.reduceEqDiff, Nat.reduceLeDiff, Nat.reduceLT, Nat.le_refl, beq_self_eq_true, Nat.reduceBEq, ne_eq, not_true_eq_false, not_false_eq_true, Int32.reduceAdd, Int32.reduceSub, Int32.reduceMul, Int32.reduceLE, Int32.reduceLT, Int32.reduceToNatClampNeg, b01_0, b01_1, ne_2_0, ne_3_0, ne_4_0, ne_5_0, ne_6_0, ne_m1_0, ne_m2_0, b01_01, b01_n, lt_m2, lt_m1, le_m2, le_m1, Classical.not_not, j_Mod_fits_0, b_Mod_fits_0, j_Mod_fits_17, b_Mod_fits_17, an_0, an_1, cl_1, ne_0_1, ne_0_m1, ne_1_0, ne_1_m1, ne_m1_0, ne_m1_1, sh_44, vi_1]
  refine c_Mod_gd ?_
  simp only [cp_kk, cp_vc, cp_vs, cp_jm, cp_ent_en, cp_en_int, cp_en_ref, cp_en_ret, cp_en_long, cp_en_nil, cp_s1_at, cp_s2_at, cp_nl_int, cp_nl_ref, cp_nl_long, cp_nl_none, cp_pop_0, cp_pop_s, reduceIte, if_true, if_false, Bool.false_eq_true, Bool.true_eq_false, false_implies, implies_true, forall_const, true_implies, true_and, and_true, and_self, true_or, or_true, false_or, or_false, Value.category, List.length_cons, List.length_nil, Option.toList_some, Option.toList_none, List.cons_append, List.nil_append, List.append_nil, Prod.mk.injEq, Nat.add_zero, Nat.zero_add, Nat.reduceAdd, Nat.reduceSub, Nat.reduceEqDiff, Nat.reduceLeDiff, Nat.reduceLT, Nat.le_refl, beq_self_eq_true, Nat.reduceBEq, ne_eq, not_true_eq_false, not_false_eq_true, Int32.reduceAdd, Int32.reduceSub, Int32.reduceMul, Int32.reduceLE, Int32.reduceLT, Int32.reduceToNatClampNeg, b01_0, b01_1, ne_2_0, ne_3_0, ne_4_0, ne_5_0, ne_6_0, ne_m1_0, ne_m2_0, b01_01, b01_n, lt_m2, lt_m1, le_m2, le_m1, Classical.not_not, Bool.or_false, Bool.false_or, Bool.true_or, Bool.or_true, j_Mod_fits_0, b_Mod_fits_0, j_Mod_fits_17, b_Mod_fits_17, an_0, an_1, cl_1, ne_0_1, ne_0_m1, ne_1_0, ne_1_m1, ne_m1_0, ne_m1_1, sh_44, vi_1, gd_14]
  refine ⟨fun c => ?_, fun c => ?_⟩
  · refine c_Mod_seekSets hn6 (by rw [gd47]; exact hn) (rU_gd hU) (fun M hM => ?_)
    rw [sk_gd I hn6] at hM
    have e := hM.2.1
    simp only [cp_kk, cp_vc, cp_vs, cp_jm, cp_ent_en, cp_en_int, cp_en_ref, cp_en_ret, cp_en_long, cp_en_nil, cp_s1_at, cp_s2_at, cp_nl_int, cp_nl_ref, cp_nl_long, cp_nl_none, cp_pop_0, cp_pop_s, reduceIte, if_true, if_false, Bool.false_eq_true, Bool.true_eq_false, false_implies, implies_true, forall_const, true_implies, true_and, and_true, and_self, true_or, or_true, false_or, or_false, Value.category, List.length_cons, List.length_nil, Option.toList_some, Option.toList_none, List.cons_append, List.nil_append, List.append_nil, Prod.mk.injEq, Nat.add_zero, Nat.zero_add, Nat.reduceAdd, Nat.reduceSub, Nat.reduceEqDiff, Nat.reduceLeDiff, Nat.reduceLT, Nat.le_refl, beq_self_eq_true, Nat.reduceBEq, ne_eq, not_true_eq_false, not_false_eq_true, Int32.reduceAdd, Int32.reduceSub, Int32.reduceMul, Int32.reduceLE, Int32.reduceLT, Int32.reduceToNatClampNeg, b01_0, b01_1, ne_2_0, ne_3_0, ne_4_0, ne_5_0, ne_6_0, ne_m1_0, ne_m2_0, b01_01, b01_n, lt_m2, lt_m1, le_m2, le_m1, Classical.not_not, Bool.or_false, Bool.false_or, Bool.true_or, Bool.or_true, j_Mod_fits_0, b_Mod_fits_0, j_Mod_fits_17, b_Mod_fits_17, an_0, an_1, cl_1, ne_0_1, ne_0_m1, ne_1_0, ne_1_m1, ne_m1_0, ne_m1_1, sh_44, vi_1, e]
    exact h1 c M hM
  · refine c_Mod_no ?_
    simp only [cp_kk, cp_vc, cp_vs, cp_jm, cp_ent_en, cp_en_int, cp_en_ref, cp_en_ret, cp_en_long, cp_en_nil, cp_s1_at, cp_s2_at, cp_nl_int, cp_nl_ref, cp_nl_long, cp_nl_none, cp_pop_0, cp_pop_s, reduceIte, if_true, if_false, Bool.false_eq_true, Bool.true_eq_false, false_implies, implies_true, forall_const, true_implies, true_and, and_true, and_self, true_or, or_true, false_or, or_false, Value.category, List.length_cons, List.length_nil, Option.toList_some, Option.toList_none, List.cons_append, List.nil_append, List.append_nil, Prod.mk.injEq, Nat.add_zero, Nat.zero_add, Nat.reduceAdd, Nat.reduceSub, Nat.reduceEqDiff, Nat.reduceLeDiff, Nat.reduceLT, Nat.le_refl, beq_self_eq_true, Nat.reduceBEq, ne_eq, not_true_eq_false, not_false_eq_true, Int32.reduceAdd, Int32.reduceSub, Int32.reduceMul, Int32.reduceLE, Int32.reduceLT, Int32.reduceToNatClampNeg, b01_0, b01_1, ne_2_0, ne_3_0, ne_4_0, ne_5_0, ne_6_0, ne_m1_0, ne_m2_0, b01_01, b01_n, lt_m2, lt_m1, le_m2, le_m1, Classical.not_not, Bool.or_false, Bool.false_or, Bool.true_or, Bool.or_true, j_Mod_fits_0, b_Mod_fits_0, j_Mod_fits_17, b_Mod_fits_17, an_0, an_1, cl_1, ne_0_1, ne_0_m1, ne_1_0, ne_1_m1, ne_m1_0, ne_m1_1, sh_44, vi_1]
    exact h0 c
theorem c_Mod_could {n um tm : Nat} {ua ub fs : Nat → Nat} (hn6 : n ≤ 6) (hn : I 47 4 = nI n) (hU : rU I um tm ua ub fs) (h1 : ¬ I 44 14 = 0 → ∀ M, skF (gd I) M (skE (sk I n um tm ua ub fs (-1))) → Q (some (.int (nI (sk I n um tm ua ub fs (-1)).2.2.1))) SH M J (PP t u r x)) (h0 : I 44 14 = 0 → Q (some (.int (-1))) SH (cp_u (gd I) 44 11 1) J (PP t u r x)) : MW g false (d + 5) 0 0 m_Mod_could [.ref 44] SH I J (PP t u r x) Q := by
  refine MW.of ok_Mod_could (Nat.le_of_ble_eq_true rfl) ?_
  refine cp_run 30 (fun _ => false) ck_Mod_could ?_
  simp only [cp_vc, cp_vs, cp_jm, cp_ent_en, cp_en_int, cp_en_ref, cp_en_ret, cp_en_long, cp_en_nil, cp_s1_at, cp_s2_at, cp_nl_int, cp_nl_ref, cp_nl_long, cp_nl_none, cp_pop_0, cp_pop_s, reduceIte, if_true, if_false, Bool.false_eq_true, Bool.true_eq_false, false_implies, implies_true, forall_const, true_implies, true_and, and_true, and_self, true_or, or_true, false_or, or_false, Value.category, List.length_cons, List.length_nil, Option.toList_some, Option.toList_none, List.cons_append, List.nil_append, List.append_nil, Prod.mk.injEq, Nat.add_zero, Nat.zero_add, Nat.reduceAdd, Nat.reduceSub, Nat.reduceEqDiff, Nat.reduceLeDiff, Nat.reduceLT, Nat.le_refl, beq_self_eq_true, Nat.reduceBEq, ne_eq, not_true_eq_false, not_false_eq_true, Int32.reduceAdd, Int32.reduceSub, Int32.reduceMul, Int32.reduceLE, Int32.reduceLT, Int32.reduceToNatClampNeg, b01_0, b01_1, ne_2_0, ne_3_0, ne_4_0, ne_5_0, ne_6_0, ne_m1_0, ne_m2_0, b01_01, b01_n, lt_m2, lt_m1, le_m2, le_m1, Classical.not_not, j_Mod_could_0, b_Mod_could_0, j_Mod_could_17, b_Mod_could_17, an_0, an_1, cl_1, ne_0_1, ne_0_m1, ne_1_0, ne_1_m1, ne_m1_0, ne_m1_1, sh_44, vi_1]
  refine c_Mod_gd ?_
  simp only [cp_kk, cp_vc, cp_vs, cp_jm, cp_ent_en, cp_en_int, cp_en_ref, cp_en_ret, cp_en_long, cp_en_nil, cp_s1_at, cp_s2_at, cp_nl_int, cp_nl_ref, cp_nl_long, cp_nl_none, cp_pop_0, cp_pop_s, reduceIte, if_true, if_false, Bool.false_eq_true, Bool.true_eq_false, false_implies, implies_true, forall_const, true_implies, true_and, and_true, and_self, true_or, or_true, false_or, or_false, Value.category, List.length_cons, List.length_nil, Option.toList_some, Option.toList_none, List.cons_append, List.nil_append, List.append_nil, Prod.mk.injEq, Nat.add_zero, Nat.zero_add, Nat.reduceAdd, Nat.reduceSub, Nat.reduceEqDiff, Nat.reduceLeDiff, Nat.reduceLT, Nat.le_refl, beq_self_eq_true, Nat.reduceBEq, ne_eq, not_true_eq_false, not_false_eq_true, Int32.reduceAdd, Int32.reduceSub, Int32.reduceMul, Int32.reduceLE, Int32.reduceLT, Int32.reduceToNatClampNeg, b01_0, b01_1, ne_2_0, ne_3_0, ne_4_0, ne_5_0, ne_6_0, ne_m1_0, ne_m2_0, b01_01, b01_n, lt_m2, lt_m1, le_m2, le_m1, Classical.not_not, Bool.or_false, Bool.false_or, Bool.true_or, Bool.or_true, j_Mod_could_0, b_Mod_could_0, j_Mod_could_17, b_Mod_could_17, an_0, an_1, cl_1, ne_0_1, ne_0_m1, ne_1_0, ne_1_m1, ne_m1_0, ne_m1_1, sh_44, vi_1, gd_14]
  refine ⟨fun c => ?_, fun c => ?_⟩
  · refine c_Mod_seekSets hn6 (by rw [gd47]; exact hn) (rU_gd hU) (fun M hM => ?_)
    rw [sk_gd I hn6] at hM
    have e := hM.2.2.1
    simp only [cp_kk, cp_vc, cp_vs, cp_jm, cp_ent_en, cp_en_int, cp_en_ref, cp_en_ret, cp_en_long, cp_en_nil, cp_s1_at, cp_s2_at, cp_nl_int, cp_nl_ref, cp_nl_long, cp_nl_none, cp_pop_0, cp_pop_s, reduceIte, if_true, if_false, Bool.false_eq_true, Bool.true_eq_false, false_implies, implies_true, forall_const, true_implies, true_and, and_true, and_self, true_or, or_true, false_or, or_false, Value.category, List.length_cons, List.length_nil, Option.toList_some, Option.toList_none, List.cons_append, List.nil_append, List.append_nil, Prod.mk.injEq, Nat.add_zero, Nat.zero_add, Nat.reduceAdd, Nat.reduceSub, Nat.reduceEqDiff, Nat.reduceLeDiff, Nat.reduceLT, Nat.le_refl, beq_self_eq_true, Nat.reduceBEq, ne_eq, not_true_eq_false, not_false_eq_true, Int32.reduceAdd, Int32.reduceSub, Int32.reduceMul, Int32.reduceLE, Int32.reduceLT, Int32.reduceToNatClampNeg, b01_0, b01_1, ne_2_0, ne_3_0, ne_4_0, ne_5_0, ne_6_0, ne_m1_0, ne_m2_0, b01_01, b01_n, lt_m2, lt_m1, le_m2, le_m1, Classical.not_not, Bool.or_false, Bool.false_or, Bool.true_or, Bool.or_true, j_Mod_could_0, b_Mod_could_0, j_Mod_could_17, b_Mod_could_17, an_0, an_1, cl_1, ne_0_1, ne_0_m1, ne_1_0, ne_1_m1, ne_m1_0, ne_m1_1, sh_44, vi_1, e]
    exact h1 c M hM
  · refine c_Mod_no ?_
    simp only [cp_kk, cp_vc, cp_vs, cp_jm, cp_ent_en, cp_en_int, cp_en_ref, cp_en_ret, cp_en_long, cp_en_nil, cp_s1_at, cp_s2_at, cp_nl_int, cp_nl_ref, cp_nl_long, cp_nl_none, cp_pop_0, cp_pop_s, reduceIte, if_true, if_false, Bool.false_eq_true, Bool.true_eq_false, false_implies, implies_true, forall_const, true_implies, true_and, and_true, and_self, true_or, or_true, false_or, or_false, Value.category, List.length_cons, List.length_nil, Option.toList_some, Option.toList_none, List.cons_append, List.nil_append, List.append_nil, Prod.mk.injEq, Nat.add_zero, Nat.zero_add, Nat.reduceAdd, Nat.reduceSub, Nat.reduceEqDiff, Nat.reduceLeDiff, Nat.reduceLT, Nat.le_refl, beq_self_eq_true, Nat.reduceBEq, ne_eq, not_true_eq_false, not_false_eq_true, Int32.reduceAdd, Int32.reduceSub, Int32.reduceMul, Int32.reduceLE, Int32.reduceLT, Int32.reduceToNatClampNeg, b01_0, b01_1, ne_2_0, ne_3_0, ne_4_0, ne_5_0, ne_6_0, ne_m1_0, ne_m2_0, b01_01, b01_n, lt_m2, lt_m1, le_m2, le_m1, Classical.not_not, Bool.or_false, Bool.false_or, Bool.true_or, Bool.or_true, j_Mod_could_0, b_Mod_could_0, j_Mod_could_17, b_Mod_could_17, an_0, an_1, cl_1, ne_0_1, ne_0_m1, ne_1_0, ne_1_m1, ne_m1_0, ne_m1_1, sh_44, vi_1]
    exact h0 c
theorem c_Mod_surely {n um tm : Nat} {ua ub fs : Nat → Nat} (hn6 : n ≤ 6) (hn : I 47 4 = nI n) (hU : rU I um tm ua ub fs) (h1 : ¬ I 44 14 = 0 → ∀ M, skF (gd I) M (skE (sk I n um tm ua ub fs (-1))) → Q (some (.int (nI (skE (sk I n um tm ua ub fs (-1))).2.2.2.1))) SH M J (PP t u r x)) (h0 : I 44 14 = 0 → Q (some (.int (-1))) SH (cp_u (gd I) 44 11 1) J (PP t u r x)) : MW g false (d + 5) 0 0 m_Mod_surely [.ref 44] SH I J (PP t u r x) Q := by
  refine MW.of ok_Mod_surely (Nat.le_of_ble_eq_true rfl) ?_
  refine cp_run 30 (fun _ => false) ck_Mod_surely ?_
  simp only [cp_vc, cp_vs, cp_jm, cp_ent_en, cp_en_int, cp_en_ref, cp_en_ret, cp_en_long, cp_en_nil, cp_s1_at, cp_s2_at, cp_nl_int, cp_nl_ref, cp_nl_long, cp_nl_none, cp_pop_0, cp_pop_s, reduceIte, if_true, if_false, Bool.false_eq_true, Bool.true_eq_false, false_implies, implies_true, forall_const, true_implies, true_and, and_true, and_self, true_or, or_true, false_or, or_false, Value.category, List.length_cons, List.length_nil, Option.toList_some, Option.toList_none, List.cons_append, List.nil_append, List.append_nil, Prod.mk.injEq, Nat.add_zero, Nat.zero_add, Nat.reduceAdd, Nat.reduceSub, Nat.reduceEqDiff, Nat.reduceLeDiff, Nat.reduceLT, Nat.le_refl, beq_self_eq_true, Nat.reduceBEq, ne_eq, not_true_eq_false, not_false_eq_true, Int32.reduceAdd, Int32.reduceSub, Int32.reduceMul, Int32.reduceLE, Int32.reduceLT, Int32.reduceToNatClampNeg, b01_0, b01_1, ne_2_0, ne_3_0, ne_4_0, ne_5_0, ne_6_0, ne_m1_0, ne_m2_0, b01_01, b01_n, lt_m2, lt_m1, le_m2, le_m1, Classical.not_not, j_Mod_surely_0, b_Mod_surely_0, j_Mod_surely_17, b_Mod_surely_17, an_0, an_1, cl_1, ne_0_1, ne_0_m1, ne_1_0, ne_1_m1, ne_m1_0, ne_m1_1, sh_44, vi_1]
  refine c_Mod_gd ?_
  simp only [cp_kk, cp_vc, cp_vs, cp_jm, cp_ent_en, cp_en_int, cp_en_ref, cp_en_ret, cp_en_long, cp_en_nil, cp_s1_at, cp_s2_at, cp_nl_int, cp_nl_ref, cp_nl_long, cp_nl_none, cp_pop_0, cp_pop_s, reduceIte, if_true, if_false, Bool.false_eq_true, Bool.true_eq_false, false_implies, implies_true, forall_const, true_implies, true_and, and_true, and_self, true_or, or_true, false_or, or_false, Value.category, List.length_cons, List.length_nil, Option.toList_some, Option.toList_none, List.cons_append, List.nil_append, List.append_nil, Prod.mk.injEq, Nat.add_zero, Nat.zero_add, Nat.reduceAdd, Nat.reduceSub, Nat.reduceEqDiff, Nat.reduceLeDiff, Nat.reduceLT, Nat.le_refl, beq_self_eq_true, Nat.reduceBEq, ne_eq, not_true_eq_false, not_false_eq_true, Int32.reduceAdd, Int32.reduceSub, Int32.reduceMul, Int32.reduceLE, Int32.reduceLT, Int32.reduceToNatClampNeg, b01_0, b01_1, ne_2_0, ne_3_0, ne_4_0, ne_5_0, ne_6_0, ne_m1_0, ne_m2_0, b01_01, b01_n, lt_m2, lt_m1, le_m2, le_m1, Classical.not_not, Bool.or_false, Bool.false_or, Bool.true_or, Bool.or_true, j_Mod_surely_0, b_Mod_surely_0, j_Mod_surely_17, b_Mod_surely_17, an_0, an_1, cl_1, ne_0_1, ne_0_m1, ne_1_0, ne_1_m1, ne_m1_0, ne_m1_1, sh_44, vi_1, gd_14]
  refine ⟨fun c => ?_, fun c => ?_⟩
  · refine c_Mod_seekSets hn6 (by rw [gd47]; exact hn) (rU_gd hU) (fun M hM => ?_)
    rw [sk_gd I hn6] at hM
    have e := hM.2.2.2.1
    simp only [cp_kk, cp_vc, cp_vs, cp_jm, cp_ent_en, cp_en_int, cp_en_ref, cp_en_ret, cp_en_long, cp_en_nil, cp_s1_at, cp_s2_at, cp_nl_int, cp_nl_ref, cp_nl_long, cp_nl_none, cp_pop_0, cp_pop_s, reduceIte, if_true, if_false, Bool.false_eq_true, Bool.true_eq_false, false_implies, implies_true, forall_const, true_implies, true_and, and_true, and_self, true_or, or_true, false_or, or_false, Value.category, List.length_cons, List.length_nil, Option.toList_some, Option.toList_none, List.cons_append, List.nil_append, List.append_nil, Prod.mk.injEq, Nat.add_zero, Nat.zero_add, Nat.reduceAdd, Nat.reduceSub, Nat.reduceEqDiff, Nat.reduceLeDiff, Nat.reduceLT, Nat.le_refl, beq_self_eq_true, Nat.reduceBEq, ne_eq, not_true_eq_false, not_false_eq_true, Int32.reduceAdd, Int32.reduceSub, Int32.reduceMul, Int32.reduceLE, Int32.reduceLT, Int32.reduceToNatClampNeg, b01_0, b01_1, ne_2_0, ne_3_0, ne_4_0, ne_5_0, ne_6_0, ne_m1_0, ne_m2_0, b01_01, b01_n, lt_m2, lt_m1, le_m2, le_m1, Classical.not_not, Bool.or_false, Bool.false_or, Bool.true_or, Bool.or_true, j_Mod_surely_0, b_Mod_surely_0, j_Mod_surely_17, b_Mod_surely_17, an_0, an_1, cl_1, ne_0_1, ne_0_m1, ne_1_0, ne_1_m1, ne_m1_0, ne_m1_1, sh_44, vi_1, e]
    exact h1 c M hM
  · refine c_Mod_no ?_
    simp only [cp_kk, cp_vc, cp_vs, cp_jm, cp_ent_en, cp_en_int, cp_en_ref, cp_en_ret, cp_en_long, cp_en_nil, cp_s1_at, cp_s2_at, cp_nl_int, cp_nl_ref, cp_nl_long, cp_nl_none, cp_pop_0, cp_pop_s, reduceIte, if_true, if_false, Bool.false_eq_true, Bool.true_eq_false, false_implies, implies_true, forall_const, true_implies, true_and, and_true, and_self, true_or, or_true, false_or, or_false, Value.category, List.length_cons, List.length_nil, Option.toList_some, Option.toList_none, List.cons_append, List.nil_append, List.append_nil, Prod.mk.injEq, Nat.add_zero, Nat.zero_add, Nat.reduceAdd, Nat.reduceSub, Nat.reduceEqDiff, Nat.reduceLeDiff, Nat.reduceLT, Nat.le_refl, beq_self_eq_true, Nat.reduceBEq, ne_eq, not_true_eq_false, not_false_eq_true, Int32.reduceAdd, Int32.reduceSub, Int32.reduceMul, Int32.reduceLE, Int32.reduceLT, Int32.reduceToNatClampNeg, b01_0, b01_1, ne_2_0, ne_3_0, ne_4_0, ne_5_0, ne_6_0, ne_m1_0, ne_m2_0, b01_01, b01_n, lt_m2, lt_m1, le_m2, le_m1, Classical.not_not, Bool.or_false, Bool.false_or, Bool.true_or, Bool.or_true, j_Mod_surely_0, b_Mod_surely_0, j_Mod_surely_17, b_Mod_surely_17, an_0, an_1, cl_1, ne_0_1, ne_0_m1, ne_1_0, ne_1_m1, ne_m1_0, ne_m1_1, sh_44, vi_1]
    exact h0 c
theorem c_Mod_fitAt {n um tm : Nat} {ua ub fs : Nat → Nat} {i : Int32} (hn6 : n ≤ 6) (hn : I 47 4 = nI n) (hU : rU I um tm ua ub fs)
    (h1 : ¬ I 44 14 = 0 → 0 ≤ i → 0 ≤ (sk I n um tm ua ub fs i).2.1 → ∀ M, skF (gd I) M (skE (sk I n um tm ua ub fs i)) → Q (some (.int (sk I n um tm ua ub fs i).2.1)) SH M J (PP t u r x))
    (h2 : ¬ I 44 14 = 0 → 0 ≤ i → ¬ 0 ≤ (sk I n um tm ua ub fs i).2.1 → ∀ M, skF (gd I) M (skE (sk I n um tm ua ub fs i)) → Q (some (.int (-1))) SH (cp_u M 44 11 1) J (PP t u r x))
    (h0 : I 44 14 = 0 ∨ ¬ 0 ≤ i → Q (some (.int (-1))) SH (cp_u (gd I) 44 11 1) J (PP t u r x)) : MW g false (d + 5) 0 0 m_Mod_fitAt [.ref 44, .int i] SH I J (PP t u r x) Q := by
  refine MW.of ok_Mod_fitAt (Nat.le_of_ble_eq_true rfl) ?_
  refine cp_run 30 (fun _ => false) ck_Mod_fitAt ?_
  simp only [cp_vc, cp_vs, cp_jm, cp_ent_en, cp_en_int, cp_en_ref, cp_en_ret, cp_en_long, cp_en_nil, cp_s1_at, cp_s2_at, cp_nl_int, cp_nl_ref, cp_nl_long, cp_nl_none, cp_pop_0, cp_pop_s, reduceIte, if_true, if_false, Bool.false_eq_true, Bool.true_eq_false, false_implies, implies_true, forall_const, true_implies, true_and, and_true, and_self, true_or, or_true, false_or, or_false, Value.category, List.length_cons, List.length_nil, Option.toList_some, Option.toList_none, List.cons_append, List.nil_append, List.append_nil, Prod.mk.injEq, Nat.add_zero, Nat.zero_add, Nat.reduceAdd, Nat.reduceSub, Nat.reduceEqDiff, Nat.reduceLeDiff, Nat.reduceLT, Nat.le_refl, beq_self_eq_true, Nat.reduceBEq, ne_eq, not_true_eq_false, not_false_eq_true, Int32.reduceAdd, Int32.reduceSub, Int32.reduceMul, Int32.reduceLE, Int32.reduceLT, Int32.reduceToNatClampNeg, b01_0, b01_1, ne_2_0, ne_3_0, ne_4_0, ne_5_0, ne_6_0, ne_m1_0, ne_m2_0, b01_01, b01_n, lt_m2, lt_m1, le_m2, le_m1, Classical.not_not, j_Mod_fitAt_0, b_Mod_fitAt_0, j_Mod_fitAt_15, b_Mod_fitAt_15, j_Mod_fitAt_21, b_Mod_fitAt_21, j_Mod_fitAt_39, b_Mod_fitAt_39, j_Mod_fitAt_40, b_Mod_fitAt_40, an_0, an_1, cl_1, ne_0_1, ne_1_0, sh_44, vi_1]
  refine c_Mod_gd ?_
  simp only [cp_kk, cp_vc, cp_vs, cp_jm, cp_ent_en, cp_en_int, cp_en_ref, cp_en_ret, cp_en_long, cp_en_nil, cp_s1_at, cp_s2_at, cp_nl_int, cp_nl_ref, cp_nl_long, cp_nl_none, cp_pop_0, cp_pop_s, reduceIte, if_true, if_false, Bool.false_eq_true, Bool.true_eq_false, false_implies, implies_true, forall_const, true_implies, true_and, and_true, and_self, true_or, or_true, false_or, or_false, Value.category, List.length_cons, List.length_nil, Option.toList_some, Option.toList_none, List.cons_append, List.nil_append, List.append_nil, Prod.mk.injEq, Nat.add_zero, Nat.zero_add, Nat.reduceAdd, Nat.reduceSub, Nat.reduceEqDiff, Nat.reduceLeDiff, Nat.reduceLT, Nat.le_refl, beq_self_eq_true, Nat.reduceBEq, ne_eq, not_true_eq_false, not_false_eq_true, Int32.reduceAdd, Int32.reduceSub, Int32.reduceMul, Int32.reduceLE, Int32.reduceLT, Int32.reduceToNatClampNeg, b01_0, b01_1, ne_2_0, ne_3_0, ne_4_0, ne_5_0, ne_6_0, ne_m1_0, ne_m2_0, b01_01, b01_n, lt_m2, lt_m1, le_m2, le_m1, Classical.not_not, Bool.or_false, Bool.false_or, Bool.true_or, Bool.or_true, j_Mod_fitAt_0, b_Mod_fitAt_0, j_Mod_fitAt_15, b_Mod_fitAt_15, j_Mod_fitAt_21, b_Mod_fitAt_21, j_Mod_fitAt_39, b_Mod_fitAt_39, j_Mod_fitAt_40, b_Mod_fitAt_40, an_0, an_1, cl_1, ne_0_1, ne_1_0, sh_44, vi_1, gd_14]
  refine ⟨fun c => ?_, fun c => ⟨fun c2 => ?_, fun c2 => ?_⟩⟩
  · refine c_Mod_no ?_
    simp only [cp_kk, cp_vc, cp_vs, cp_jm, cp_ent_en, cp_en_int, cp_en_ref, cp_en_ret, cp_en_long, cp_en_nil, cp_s1_at, cp_s2_at, cp_nl_int, cp_nl_ref, cp_nl_long, cp_nl_none, cp_pop_0, cp_pop_s, reduceIte, if_true, if_false, Bool.false_eq_true, Bool.true_eq_false, false_implies, implies_true, forall_const, true_implies, true_and, and_true, and_self, true_or, or_true, false_or, or_false, Value.category, List.length_cons, List.length_nil, Option.toList_some, Option.toList_none, List.cons_append, List.nil_append, List.append_nil, Prod.mk.injEq, Nat.add_zero, Nat.zero_add, Nat.reduceAdd, Nat.reduceSub, Nat.reduceEqDiff, Nat.reduceLeDiff, Nat.reduceLT, Nat.le_refl, beq_self_eq_true, Nat.reduceBEq, ne_eq, not_true_eq_false, not_false_eq_true, Int32.reduceAdd, Int32.reduceSub, Int32.reduceMul, Int32.reduceLE, Int32.reduceLT, Int32.reduceToNatClampNeg, b01_0, b01_1, ne_2_0, ne_3_0, ne_4_0, ne_5_0, ne_6_0, ne_m1_0, ne_m2_0, b01_01, b01_n, lt_m2, lt_m1, le_m2, le_m1, Classical.not_not, Bool.or_false, Bool.false_or, Bool.true_or, Bool.or_true, j_Mod_fitAt_0, b_Mod_fitAt_0, j_Mod_fitAt_15, b_Mod_fitAt_15, j_Mod_fitAt_21, b_Mod_fitAt_21, j_Mod_fitAt_39, b_Mod_fitAt_39, j_Mod_fitAt_40, b_Mod_fitAt_40, an_0, an_1, cl_1, ne_0_1, ne_1_0, sh_44, vi_1]
    exact h0 (Or.inl c)
  · refine c_Mod_seekSets hn6 (by rw [gd47]; exact hn) (rU_gd hU) (fun M hM => ?_)
    rw [sk_gd I hn6] at hM ⊢
    simp only [cp_kk, cp_vc, cp_vs, cp_jm, cp_ent_en, cp_en_int, cp_en_ref, cp_en_ret, cp_en_long, cp_en_nil, cp_s1_at, cp_s2_at, cp_nl_int, cp_nl_ref, cp_nl_long, cp_nl_none, cp_pop_0, cp_pop_s, reduceIte, if_true, if_false, Bool.false_eq_true, Bool.true_eq_false, false_implies, implies_true, forall_const, true_implies, true_and, and_true, and_self, true_or, or_true, false_or, or_false, Value.category, List.length_cons, List.length_nil, Option.toList_some, Option.toList_none, List.cons_append, List.nil_append, List.append_nil, Prod.mk.injEq, Nat.add_zero, Nat.zero_add, Nat.reduceAdd, Nat.reduceSub, Nat.reduceEqDiff, Nat.reduceLeDiff, Nat.reduceLT, Nat.le_refl, beq_self_eq_true, Nat.reduceBEq, ne_eq, not_true_eq_false, not_false_eq_true, Int32.reduceAdd, Int32.reduceSub, Int32.reduceMul, Int32.reduceLE, Int32.reduceLT, Int32.reduceToNatClampNeg, b01_0, b01_1, ne_2_0, ne_3_0, ne_4_0, ne_5_0, ne_6_0, ne_m1_0, ne_m2_0, b01_01, b01_n, lt_m2, lt_m1, le_m2, le_m1, Classical.not_not, Bool.or_false, Bool.false_or, Bool.true_or, Bool.or_true, j_Mod_fitAt_0, b_Mod_fitAt_0, j_Mod_fitAt_15, b_Mod_fitAt_15, j_Mod_fitAt_21, b_Mod_fitAt_21, j_Mod_fitAt_39, b_Mod_fitAt_39, j_Mod_fitAt_40, b_Mod_fitAt_40, an_0, an_1, cl_1, ne_0_1, ne_1_0, sh_44, vi_1]
    refine ⟨fun c3 => h1 c c2 c3 M hM, fun c3 => ?_⟩
    refine c_Mod_no ?_
    simp only [cp_kk, cp_vc, cp_vs, cp_jm, cp_ent_en, cp_en_int, cp_en_ref, cp_en_ret, cp_en_long, cp_en_nil, cp_s1_at, cp_s2_at, cp_nl_int, cp_nl_ref, cp_nl_long, cp_nl_none, cp_pop_0, cp_pop_s, reduceIte, if_true, if_false, Bool.false_eq_true, Bool.true_eq_false, false_implies, implies_true, forall_const, true_implies, true_and, and_true, and_self, true_or, or_true, false_or, or_false, Value.category, List.length_cons, List.length_nil, Option.toList_some, Option.toList_none, List.cons_append, List.nil_append, List.append_nil, Prod.mk.injEq, Nat.add_zero, Nat.zero_add, Nat.reduceAdd, Nat.reduceSub, Nat.reduceEqDiff, Nat.reduceLeDiff, Nat.reduceLT, Nat.le_refl, beq_self_eq_true, Nat.reduceBEq, ne_eq, not_true_eq_false, not_false_eq_true, Int32.reduceAdd, Int32.reduceSub, Int32.reduceMul, Int32.reduceLE, Int32.reduceLT, Int32.reduceToNatClampNeg, b01_0, b01_1, ne_2_0, ne_3_0, ne_4_0, ne_5_0, ne_6_0, ne_m1_0, ne_m2_0, b01_01, b01_n, lt_m2, lt_m1, le_m2, le_m1, Classical.not_not, Bool.or_false, Bool.false_or, Bool.true_or, Bool.or_true, j_Mod_fitAt_0, b_Mod_fitAt_0, j_Mod_fitAt_15, b_Mod_fitAt_15, j_Mod_fitAt_21, b_Mod_fitAt_21, j_Mod_fitAt_39, b_Mod_fitAt_39, j_Mod_fitAt_40, b_Mod_fitAt_40, an_0, an_1, cl_1, ne_0_1, ne_1_0, sh_44, vi_1]
    exact h2 c c2 c3 M hM
  · refine c_Mod_no ?_
    simp only [cp_kk, cp_vc, cp_vs, cp_jm, cp_ent_en, cp_en_int, cp_en_ref, cp_en_ret, cp_en_long, cp_en_nil, cp_s1_at, cp_s2_at, cp_nl_int, cp_nl_ref, cp_nl_long, cp_nl_none, cp_pop_0, cp_pop_s, reduceIte, if_true, if_false, Bool.false_eq_true, Bool.true_eq_false, false_implies, implies_true, forall_const, true_implies, true_and, and_true, and_self, true_or, or_true, false_or, or_false, Value.category, List.length_cons, List.length_nil, Option.toList_some, Option.toList_none, List.cons_append, List.nil_append, List.append_nil, Prod.mk.injEq, Nat.add_zero, Nat.zero_add, Nat.reduceAdd, Nat.reduceSub, Nat.reduceEqDiff, Nat.reduceLeDiff, Nat.reduceLT, Nat.le_refl, beq_self_eq_true, Nat.reduceBEq, ne_eq, not_true_eq_false, not_false_eq_true, Int32.reduceAdd, Int32.reduceSub, Int32.reduceMul, Int32.reduceLE, Int32.reduceLT, Int32.reduceToNatClampNeg, b01_0, b01_1, ne_2_0, ne_3_0, ne_4_0, ne_5_0, ne_6_0, ne_m1_0, ne_m2_0, b01_01, b01_n, lt_m2, lt_m1, le_m2, le_m1, Classical.not_not, Bool.or_false, Bool.false_or, Bool.true_or, Bool.or_true, j_Mod_fitAt_0, b_Mod_fitAt_0, j_Mod_fitAt_15, b_Mod_fitAt_15, j_Mod_fitAt_21, b_Mod_fitAt_21, j_Mod_fitAt_39, b_Mod_fitAt_39, j_Mod_fitAt_40, b_Mod_fitAt_40, an_0, an_1, cl_1, ne_0_1, ne_1_0, sh_44, vi_1]
    exact h0 (Or.inr c2)
end Mod14
