def cp_at (p : Nat) (w : Jvm.Cond) : Bool := decide (lw_tbl[p]? = some w) && goodWord w
theorem cp_at_ok {p : Nat} {w : Jvm.Cond} (h : cp_at p w = true) : w ∈ cp_WT := by
  simp only [cp_at, Bool.and_eq_true, decide_eq_true_eq] at h
  exact List.mem_filter.mpr ⟨List.mem_of_getElem? h.1, h.2⟩
def cp_an (p : Nat) (w : Jvm.Cond) : Bool := decide (tables_1[p]? = some w) && cp_isN w
theorem cp_an_ok {p : Nat} {w : Jvm.Cond} (h : cp_an p w = true) : w ∈ cp_nest := by
  simp only [cp_an, Bool.and_eq_true, decide_eq_true_eq] at h
  exact List.mem_filter.mpr ⟨List.mem_of_getElem? h.1, h.2⟩
def cp_hd (c : List cp_AI) : Option Nat := match c with
  | [] => none
  | x :: _ => some x.1
def cp_isNop : Instr → Bool
  | .nop => true
  | _ => false
def cp_isTab : Instr → Bool
  | .tableswitch .. => true
  | _ => false
def cp_ends : Instr → Bool
  | .goto _ => true
  | .tableswitch .. => true
  | .ireturn => true
  | .lreturn => true
  | .return_ => true
  | _ => false
def cp_len : Instr → Nat
  | .bipush _ => 2
  | .ldc _ => 2
  | .iload _ => 2
  | .lload _ => 2
  | .aload _ => 2
  | .istore _ => 2
  | .lstore _ => 2
  | .astore _ => 2
  | .newarray _ => 2
  | .sipush _ => 3
  | .ldc_w _ => 3
  | .ldc2_w _ => 3
  | .iinc _ _ => 3
  | .ifCond _ _ => 3
  | .if_icmp _ _ => 3
  | .goto _ => 3
  | .getfield _ => 3
  | .putfield _ => 3
  | .getstatic _ => 3
  | .new _ => 3
  | .invokevirtual _ => 3
  | .invokestatic _ => 3
  | .invokespecial _ => 3
  | _ => 1
def cp_tc : FieldType → Nat
  | .long => 1
  | .object _ => 2
  | .array _ => 2
  | _ => 0
def cp_tcp : FieldType → Nat
  | .long => 1
  | .object _ => 2
  | .array _ => 2
  | .int => 0
  | .boolean => 3
  | _ => 9
def cp_nds (y : cp_M) : Option Nat := (parseMethodDescriptor y.1.desc).map (fun d => d.parameters.length)
def cp_sp (y : cp_M) (pc : Nat) (i : Instr) (inf pos : List Nat) (v : Int32) (w : Int64) (cal : cp_M) : Bool := match i with
  | .iconst n => decide (Int32.ofInt n = v)
  | .bipush n => decide ((Int8.ofInt n).toInt32 = v)
  | .sipush n => decide ((Int16.ofInt n).toInt32 = v)
  | .lconst n => decide (Int64.ofNat (n : Nat) = w)
  | .ldc ix => (match inf, pos with
    | [], [p] => cp_at p (.constant y.1.cls ix v)
    | [j], _ => decide (j < 1000) && (match cp_rf[j]? with
      | some q => decide (q.1 = y.1.cls) && decide (q.2.1 = ix) && decide (q.2.2.2 = j)
      | none => false)
    | _, _ => false)
  | .ldc_w ix => (match pos with
    | [p] => cp_at p (.constant y.1.cls ix v)
    | _ => false)
  | .ldc2_w ix => (match pos with
    | [p] => cp_at p (.constantLong y.1.cls ix w)
    | _ => false)
  | .iload k => (match inf with
    | [j] => decide (k = j) && decide (j < y.2.2.1)
    | _ => false)
  | .iload_n k => (match inf with
    | [j] => decide ((k : Nat) = j) && decide (j < y.2.2.1)
    | _ => false)
  | .lload k => (match inf with
    | [j] => decide (k = j) && decide (j < y.2.2.1)
    | _ => false)
  | .lload_n k => (match inf with
    | [j] => decide ((k : Nat) = j) && decide (j < y.2.2.1)
    | _ => false)
  | .aload k => (match inf with
    | [j] => decide (k = j) && decide (j < y.2.2.1)
    | _ => false)
  | .aload_n k => (match inf with
    | [j] => decide ((k : Nat) = j) && decide (j < y.2.2.1)
    | _ => false)
  | .istore k => (match inf with
    | [j] => decide (k = j) && decide (j < y.2.2.1)
    | _ => false)
  | .istore_n k => (match inf with
    | [j] => decide ((k : Nat) = j) && decide (j < y.2.2.1)
    | _ => false)
  | .astore k => (match inf with
    | [j] => decide (k = j) && decide (j < y.2.2.1)
    | _ => false)
  | .astore_n k => (match inf with
    | [j] => decide ((k : Nat) = j) && decide (j < y.2.2.1)
    | _ => false)
  | .lstore k => (match inf with
    | [j] => decide (k = j) && decide (j + 1 < y.2.2.1)
    | _ => false)
  | .lstore_n k => (match inf with
    | [j] => decide ((k : Nat) = j) && decide (j + 1 < y.2.2.1)
    | _ => false)
  | .iinc k n => (match inf with
    | [j] => decide (k = j) && decide (j < y.2.2.1) && decide (Int32.ofInt n = v)
    | _ => false)
  | .ifCond _ off => (match inf with
    | [t] => decide ((pc : Int) + off = (t : Int))
    | _ => false)
  | .if_icmp _ off => (match inf with
    | [t] => decide ((pc : Int) + off = (t : Int))
    | _ => false)
  | .goto off => (match inf with
    | [t] => decide ((pc : Int) + off = (t : Int))
    | _ => false)
  | .tableswitch dflt lo hi offs => (match inf with
    | td :: ts => decide ((pc : Int) + dflt = (td : Int)) && decide (hi + 1 = lo + (ts.length : Int)) && (List.range ts.length).all (fun j => decide ((offs[j]?).map (fun o => (pc : Int) + o) = (ts[j]?).map (fun t => (t : Int))))
    | _ => false)
  | .ireturn => (match inf with
    | [0] => decide (y.2.2.2 = some .int)
    | [1] => decide (y.2.2.2 = some .boolean)
    | [2] => decide (y.2.2.2 = some .byte)
    | [3] => decide (y.2.2.2 = some .char)
    | _ => false)
  | .lreturn => decide (y.2.2.2 = some .long)
  | .return_ => decide (y.2.2.2 = none)
  | .getstatic ix => (match inf, pos with
    | [0], [p] => cp_at p (.fieldLink y.1.cls ix "java/lang/String" "COMPACT_STRINGS" "Z")
    | [1], [p] => cp_at p (.fieldLink y.1.cls ix "jdk/internal/util/Preconditions" "SIOOBE_FORMATTER" "Ljava/util/function/BiFunction;")
    | _, _ => false)
  | .getfield ix => (match inf, pos with
    | [ci, j, N, tc], [p] => (match vwCl[ci]? with
      | some (_, T, N') => decide (N = N') && decide (j < N) && decide (cp_tc (cp_ty ci j) = tc) && cp_at p (.fieldLink y.1.cls ix (T j).1 (T j).2.1 (T j).2.2.1)
      | none => false)
    | [0], [p] => cp_at p (.fieldLink y.1.cls ix "java/lang/String" "value" "[B")
    | [1], [p] => cp_at p (.fieldLink y.1.cls ix "java/lang/String" "coder" "B")
    | _, _ => false)
  | .putfield ix => (match inf, pos with
    | [ci, j, N, tc], [p] => (match vwCl[ci]? with
      | some (_, T, N') => decide (N = N') && decide (j < N) && decide (cp_tcp (cp_ty ci j) = tc) && cp_at p (.fieldLink y.1.cls ix (T j).1 (T j).2.1 (T j).2.2.1) && (decide ((T j).2.2.2 = false) || (decide (y.1.name = "<init>") && decide ((T j).1 = y.1.cls)))
      | none => false)
    | _, _ => false)
  | .new ix => (match inf, pos with
    | [ci, N], [p1, p2, p3] => (match vwCl[ci]? with
      | some (C, _, N') => decide (N = N') && cp_at p1 (.classLink y.1.cls ix C) && cp_at p2 (.instantiable C N) && cp_at p3 (.initialized C)
      | none => false)
    | _, _ => false)
  | .newarray ty => (match inf, pos with
    | [cd], [p] => decide (cd < 3) && decide (ty = cp_aty cd) && cp_at p (.arrayClass (newarray.typeOf (cp_aty cd)))
    | _, _ => false)
  | .invokevirtual ix => (match inf, pos with
    | [n, ci, N, _, _], [p1, p2, p3] => (match vwCl[ci]? with
      | some (C, _, N') => decide (N = N') && cp_at p1 (.methodLink y.1.cls ix cal.1) && cp_at p2 (.instanceMethod cal.1) && cp_at p3 (.selects C cal.1 cal.1) && decide (cp_nds cal = some n)
      | none => false)
    | [n], [p1, p2, p3] => cp_at p1 (.methodLink y.1.cls ix cal.1) && cp_at p2 (.instanceMethod cal.1) && cp_at p3 (.selects "java/lang/String" cal.1 cal.1) && decide (cp_nds cal = some n)
    | _, _ => false)
  | .invokestatic ix => (match inf, pos with
    | [0, n, _, _], [p1, p2] => cp_at p1 (.methodLink y.1.cls ix cal.1) && cp_at p2 (.static cal.1) && decide (cp_nds cal = some n)
    | [1, n, _, _], [p1, p2] => cp_an p1 (.methodLinkNest y.1.cls ix cal.1 "ColdPlunge") && cp_at p2 (.static cal.1) && decide (cp_nds cal = some n)
    | [0], [p1, p2, p3, p4] => cp_at p1 (.methodLink y.1.cls ix Lib.Math.max.name) && cp_at p2 (.static Lib.Math.max.name) && cp_at p3 (.initialized "java/lang/Math") && cp_at p4 (.code Lib.Math.max.name Lib.Math.max.code 2 (some .int))
    | [1], [p1, p2, p3, p4] => cp_at p1 (.methodLink y.1.cls ix Lib.Math.min.name) && cp_at p2 (.static Lib.Math.min.name) && cp_at p3 (.initialized "java/lang/Math") && cp_at p4 (.code Lib.Math.min.name Lib.Math.min.code 2 (some .int))
    | _, _ => false)
  | .invokespecial ix => (match inf, pos with
    | [0, n, _, _], [p1, p2] => cp_at p1 (.methodLink y.1.cls ix cal.1) && cp_at p2 (.instanceMethod cal.1) && decide (cp_nds cal = some n) && decide (cal.1.name = "<init>") && decide (cal.2.2.2 = none)
    | [1, n, _, _], [p1, p2] => cp_an p1 (.methodLinkNest y.1.cls ix cal.1 "ColdPlunge") && cp_at p2 (.instanceMethod cal.1) && decide (cp_nds cal = some n) && decide (cal.1.name = "<init>") && decide (cal.2.2.2 = none)
    | [], [p1, p2, p3] => cp_at p1 (.methodLink y.1.cls ix objectInit) && cp_at p2 (.instanceMethod objectInit) && cp_at p3 (.code objectInit ⟨#[0xb1]⟩ 1 none)
    | _, _ => false)
  | _ => true
def cp_ck (y : cp_M) (x : cp_AI) (rest : List cp_AI) : Bool := match x with
  | (pc, i, len, inf, pos, v, w, cal) => cp_isNop i || (decide (decode y.2.1 pc = .ok (i, len)) && (cp_isTab i || decide (len = cp_len i)) && (cp_ends i || decide (cp_hd rest = some (pc + len))) && cp_sp y pc i inf pos v w cal)
def cp_cks (y : cp_M) : List cp_AI → Bool
  | [] => true
  | x :: rest => cp_ck y x rest && cp_cks y rest
def cp_jl : List (Nat × List cp_AI) → Nat → List cp_AI
  | [], _ => []
  | (s, b) :: r, t => if t = s then b else cp_jl r t
def cp_bl (y : cp_M) (bl : List (Nat × List cp_AI)) : Bool := bl.all (fun q => decide (cp_hd q.2 = some q.1) && cp_cks y q.2)
theorem cp_jl_ok {y : cp_M} : ∀ (bl : List (Nat × List cp_AI)), cp_bl y bl = true → ∀ t, cp_jl bl t = [] ∨ (cp_hd (cp_jl bl t) = some t ∧ cp_cks y (cp_jl bl t) = true)
  | [], _, _ => Or.inl rfl
  | (s, b) :: r, h, t => by
    simp only [cp_bl, List.all_cons, Bool.and_eq_true, decide_eq_true_eq] at h
    unfold cp_jl
    by_cases ht : t = s
    · rw [if_pos ht, ht]
      exact Or.inr h.1
    · rw [if_neg ht]
      exact cp_jl_ok r h.2 t
theorem cp_sw_get {G : cp_Z} {a : Int32} {cells slots : Nat} {L : cp_Lo} {S : List Value} {sh : cp_H} {I : cp_I} {J : cp_J} {P : cp_P} : ∀ (ts : List Nat) (lo : Int), cp_sw G a cells slots L S sh I J P lo ts → ∀ (j : Nat) (t : Nat), ts[j]? = some t → a.toInt = lo + j → G t cells slots L S sh I J P
  | [], _, _, _, _, h, _ => by simp at h
  | t0 :: ts, lo, h, 0, t, ht, ha => by
    simp at ht
    subst ht
    exact h.1 (by simpa using ha)
  | t0 :: ts, lo, h, j + 1, t, ht, ha => cp_sw_get ts (lo + 1) h.2 j t (by simpa using ht) (by rw [ha]; push_cast; omega)
section CpSound
variable {g : cp_G} {ex : Bool} {dC mc ms : Nat} {y : cp_M} {Q : cp_QT}
set_option maxHeartbeats 4000000 in
theorem cp_vs_sound {G : cp_Z} {K : cp_K} {x : cp_AI} {rest : List cp_AI} {cells slots : Nat} {L : cp_Lo} {S : List Value} {sh : cp_H} {I : cp_I} {J : cp_J} {P : cp_P}
    (hK : ∀ cells slots L S sh I J P pc, cp_hd rest = some pc → K rest cells slots L S sh I J P → RW g ex (dC + 1) mc ms y cells slots pc L S sh I J P Q)
    (hG : ∀ t cells slots L S sh I J P, G t cells slots L S sh I J P → RW g ex (dC + 1) mc ms y cells slots t L S sh I J P Q)
    (ck : cp_ck y x rest = true) (hv : cp_vs g ex dC mc ms G Q K x rest cells slots L S sh I J P) : RW g ex (dC + 1) mc ms y cells slots x.1 L S sh I J P Q := by
  obtain ⟨pc, i, len, inf, pos, v, w, cal⟩ := x
  show RW g ex (dC + 1) mc ms y cells slots pc L S sh I J P Q
  simp only [cp_ck, Bool.or_eq_true, Bool.and_eq_true, decide_eq_true_eq] at ck
  rcases ck with hnop | ⟨⟨⟨c1, c2⟩, c3⟩, c4⟩
  · cases i <;> first | (simp [cp_isNop] at hnop; done) | exact hG _ _ _ _ _ _ _ _ _ hv
  cases i
  case iconst kk =>
    have hl : len = 1 := by simpa [cp_isTab, cp_len] using c2
    subst hl
    have nx : ∀ cells slots L S sh I J P, K rest cells slots L S sh I J P → RW g ex (dC + 1) mc ms y cells slots (pc + 1) L S sh I J P Q := fun cells slots L S sh I J P h => hK cells slots L S sh I J P _ (by simpa [cp_ends] using c3) h
    dsimp only [cp_vs] at hv
    simp only [cp_sp, Bool.and_eq_true, decide_eq_true_eq] at c4
    exact r_iconst c1 c4 (nx _ _ _ _ _ _ _ _ hv)
  case bipush kk =>
    have hl : len = 2 := by simpa [cp_isTab, cp_len] using c2
    subst hl
    have nx : ∀ cells slots L S sh I J P, K rest cells slots L S sh I J P → RW g ex (dC + 1) mc ms y cells slots (pc + 2) L S sh I J P Q := fun cells slots L S sh I J P h => hK cells slots L S sh I J P _ (by simpa [cp_ends] using c3) h
    dsimp only [cp_vs] at hv
    simp only [cp_sp, Bool.and_eq_true, decide_eq_true_eq] at c4
    exact r_bipush c1 c4 (nx _ _ _ _ _ _ _ _ hv)
  case sipush kk =>
    have hl : len = 3 := by simpa [cp_isTab, cp_len] using c2
    subst hl
    have nx : ∀ cells slots L S sh I J P, K rest cells slots L S sh I J P → RW g ex (dC + 1) mc ms y cells slots (pc + 3) L S sh I J P Q := fun cells slots L S sh I J P h => hK cells slots L S sh I J P _ (by simpa [cp_ends] using c3) h
    dsimp only [cp_vs] at hv
    simp only [cp_sp, Bool.and_eq_true, decide_eq_true_eq] at c4
    exact r_sipush c1 c4 (nx _ _ _ _ _ _ _ _ hv)
  case lconst kk =>
    have hl : len = 1 := by simpa [cp_isTab, cp_len] using c2
    subst hl
    have nx : ∀ cells slots L S sh I J P, K rest cells slots L S sh I J P → RW g ex (dC + 1) mc ms y cells slots (pc + 1) L S sh I J P Q := fun cells slots L S sh I J P h => hK cells slots L S sh I J P _ (by simpa [cp_ends] using c3) h
    dsimp only [cp_vs] at hv
    simp only [cp_sp, Bool.and_eq_true, decide_eq_true_eq] at c4
    exact r_lconst c1 c4 (nx _ _ _ _ _ _ _ _ hv)
  case ldc ix =>
    have hl : len = 2 := by simpa [cp_isTab, cp_len] using c2
    subst hl
    have nx : ∀ cells slots L S sh I J P, K rest cells slots L S sh I J P → RW g ex (dC + 1) mc ms y cells slots (pc + 2) L S sh I J P Q := fun cells slots L S sh I J P h => hK cells slots L S sh I J P _ (by simpa [cp_ends] using c3) h
    dsimp only [cp_vs] at hv
    split at hv
    · cases pos with
      | nil => simp [cp_sp] at c4
      | cons p ps => cases ps with
        | nil => exact r_ldc (cp_at_ok c4) c1 (nx _ _ _ _ _ _ _ _ hv)
        | cons _ _ => simp [cp_sp] at c4
    · rename_i j
      have c5 : (decide (j < 1000) && (match cp_rf[j]? with
        | some q => decide (q.1 = y.1.cls) && decide (q.2.1 = ix) && decide (q.2.2.2 = j)
        | none => false)) = true := c4
      simp only [Bool.and_eq_true, decide_eq_true_eq] at c5
      obtain ⟨c5, c6⟩ := c5
      cases hq : cp_rf[j]? with
      | none => rw [hq] at c6; cases c6
      | some q =>
        rw [hq] at c6
        simp only [Bool.and_eq_true, decide_eq_true_eq] at c6
        obtain ⟨⟨e1, e2⟩, e3⟩ := c6
        have hm := List.mem_of_getElem? hq
        obtain ⟨q1, q2, q3, q4⟩ := q
        dsimp only at e1 e2 e3
        subst e1 e2 e3
        exact r_ldcS c5 hm c1 (nx _ _ _ _ _ _ _ _ hv)
    · exact hv.elim
  case ldc_w ix =>
    have hl : len = 3 := by simpa [cp_isTab, cp_len] using c2
    subst hl
    have nx : ∀ cells slots L S sh I J P, K rest cells slots L S sh I J P → RW g ex (dC + 1) mc ms y cells slots (pc + 3) L S sh I J P Q := fun cells slots L S sh I J P h => hK cells slots L S sh I J P _ (by simpa [cp_ends] using c3) h
    dsimp only [cp_vs] at hv
    cases pos with
    | nil => simp [cp_sp] at c4
    | cons p ps => cases ps with
      | nil => exact r_ldcw (cp_at_ok c4) c1 (nx _ _ _ _ _ _ _ _ hv)
      | cons _ _ => simp [cp_sp] at c4
  case ldc2_w ix =>
    have hl : len = 3 := by simpa [cp_isTab, cp_len] using c2
    subst hl
    have nx : ∀ cells slots L S sh I J P, K rest cells slots L S sh I J P → RW g ex (dC + 1) mc ms y cells slots (pc + 3) L S sh I J P Q := fun cells slots L S sh I J P h => hK cells slots L S sh I J P _ (by simpa [cp_ends] using c3) h
    dsimp only [cp_vs] at hv
    cases pos with
    | nil => simp [cp_sp] at c4
    | cons p ps => cases ps with
      | nil => exact r_ldc2 (cp_at_ok c4) c1 (nx _ _ _ _ _ _ _ _ hv)
      | cons _ _ => simp [cp_sp] at c4
  case iload kk =>
    have hl : len = 2 := by simpa [cp_isTab, cp_len] using c2
    subst hl
    have nx : ∀ cells slots L S sh I J P, K rest cells slots L S sh I J P → RW g ex (dC + 1) mc ms y cells slots (pc + 2) L S sh I J P Q := fun cells slots L S sh I J P h => hK cells slots L S sh I J P _ (by simpa [cp_ends] using c3) h
    dsimp only [cp_vs] at hv
    split at hv
    · split at hv
      · rename_i hx
        simp only [cp_sp, Bool.and_eq_true, decide_eq_true_eq] at c4
        obtain ⟨e1, e2⟩ := c4
        subst e1
        exact r_iload (len := 0) c1 e2 hx (nx _ _ _ _ _ _ _ _ hv)
      · exact hv.elim
    · exact hv.elim
  case iload_n kk =>
    have hl : len = 1 := by simpa [cp_isTab, cp_len] using c2
    subst hl
    have nx : ∀ cells slots L S sh I J P, K rest cells slots L S sh I J P → RW g ex (dC + 1) mc ms y cells slots (pc + 1) L S sh I J P Q := fun cells slots L S sh I J P h => hK cells slots L S sh I J P _ (by simpa [cp_ends] using c3) h
    dsimp only [cp_vs] at hv
    split at hv
    · split at hv
      · rename_i hx
        simp only [cp_sp, Bool.and_eq_true, decide_eq_true_eq] at c4
        obtain ⟨e1, e2⟩ := c4

        exact r_iload_n c1 e1 e2 hx (nx _ _ _ _ _ _ _ _ hv)
      · exact hv.elim
    · exact hv.elim
  case lload kk =>
    have hl : len = 2 := by simpa [cp_isTab, cp_len] using c2
    subst hl
    have nx : ∀ cells slots L S sh I J P, K rest cells slots L S sh I J P → RW g ex (dC + 1) mc ms y cells slots (pc + 2) L S sh I J P Q := fun cells slots L S sh I J P h => hK cells slots L S sh I J P _ (by simpa [cp_ends] using c3) h
    dsimp only [cp_vs] at hv
    split at hv
    · split at hv
      · rename_i hx
        simp only [cp_sp, Bool.and_eq_true, decide_eq_true_eq] at c4
        obtain ⟨e1, e2⟩ := c4
        subst e1
        exact r_lload c1 e2 hx (nx _ _ _ _ _ _ _ _ hv)
      · exact hv.elim
    · exact hv.elim
  case lload_n kk =>
    have hl : len = 1 := by simpa [cp_isTab, cp_len] using c2
    subst hl
    have nx : ∀ cells slots L S sh I J P, K rest cells slots L S sh I J P → RW g ex (dC + 1) mc ms y cells slots (pc + 1) L S sh I J P Q := fun cells slots L S sh I J P h => hK cells slots L S sh I J P _ (by simpa [cp_ends] using c3) h
    dsimp only [cp_vs] at hv
    split at hv
    · split at hv
      · rename_i hx
        simp only [cp_sp, Bool.and_eq_true, decide_eq_true_eq] at c4
        obtain ⟨e1, e2⟩ := c4

        exact r_lload_n c1 e1 e2 hx (nx _ _ _ _ _ _ _ _ hv)
      · exact hv.elim
    · exact hv.elim
  case aload kk =>
    have hl : len = 2 := by simpa [cp_isTab, cp_len] using c2
    subst hl
    have nx : ∀ cells slots L S sh I J P, K rest cells slots L S sh I J P → RW g ex (dC + 1) mc ms y cells slots (pc + 2) L S sh I J P Q := fun cells slots L S sh I J P h => hK cells slots L S sh I J P _ (by simpa [cp_ends] using c3) h
    dsimp only [cp_vs] at hv
    split at hv
    · split at hv
      · rename_i hx
        simp only [cp_sp, Bool.and_eq_true, decide_eq_true_eq] at c4
        obtain ⟨e1, e2⟩ := c4
        subst e1
        exact r_aload c1 e2 hx (nx _ _ _ _ _ _ _ _ hv)
      · exact hv.elim
    · exact hv.elim
  case aload_n kk =>
    have hl : len = 1 := by simpa [cp_isTab, cp_len] using c2
    subst hl
    have nx : ∀ cells slots L S sh I J P, K rest cells slots L S sh I J P → RW g ex (dC + 1) mc ms y cells slots (pc + 1) L S sh I J P Q := fun cells slots L S sh I J P h => hK cells slots L S sh I J P _ (by simpa [cp_ends] using c3) h
    dsimp only [cp_vs] at hv
    split at hv
    · split at hv
      · rename_i hx
        simp only [cp_sp, Bool.and_eq_true, decide_eq_true_eq] at c4
        obtain ⟨e1, e2⟩ := c4

        exact r_aload_n c1 e1 e2 hx (nx _ _ _ _ _ _ _ _ hv)
      · exact hv.elim
    · exact hv.elim
  case istore kk =>
    have hl : len = 2 := by simpa [cp_isTab, cp_len] using c2
    subst hl
    have nx : ∀ cells slots L S sh I J P, K rest cells slots L S sh I J P → RW g ex (dC + 1) mc ms y cells slots (pc + 2) L S sh I J P Q := fun cells slots L S sh I J P h => hK cells slots L S sh I J P _ (by simpa [cp_ends] using c3) h
    dsimp only [cp_vs] at hv
    split at hv
    · 
      simp only [cp_sp, Bool.and_eq_true, decide_eq_true_eq] at c4
      obtain ⟨e1, e2⟩ := c4
      subst e1
      exact r_istore c1 e2 (nx _ _ _ _ _ _ _ _ hv)
    · exact hv.elim
  case istore_n kk =>
    have hl : len = 1 := by simpa [cp_isTab, cp_len] using c2
    subst hl
    have nx : ∀ cells slots L S sh I J P, K rest cells slots L S sh I J P → RW g ex (dC + 1) mc ms y cells slots (pc + 1) L S sh I J P Q := fun cells slots L S sh I J P h => hK cells slots L S sh I J P _ (by simpa [cp_ends] using c3) h
    dsimp only [cp_vs] at hv
    split at hv
    · 
      simp only [cp_sp, Bool.and_eq_true, decide_eq_true_eq] at c4
      obtain ⟨e1, e2⟩ := c4

      exact r_istore_n c1 e1 e2 (nx _ _ _ _ _ _ _ _ hv)
    · exact hv.elim
  case lstore kk =>
    have hl : len = 2 := by simpa [cp_isTab, cp_len] using c2
    subst hl
    have nx : ∀ cells slots L S sh I J P, K rest cells slots L S sh I J P → RW g ex (dC + 1) mc ms y cells slots (pc + 2) L S sh I J P Q := fun cells slots L S sh I J P h => hK cells slots L S sh I J P _ (by simpa [cp_ends] using c3) h
    dsimp only [cp_vs] at hv
    split at hv
    · 
      simp only [cp_sp, Bool.and_eq_true, decide_eq_true_eq] at c4
      obtain ⟨e1, e2⟩ := c4
      subst e1
      exact r_lstore c1 e2 (nx _ _ _ _ _ _ _ _ hv)
    · exact hv.elim
  case lstore_n kk =>
    have hl : len = 1 := by simpa [cp_isTab, cp_len] using c2
    subst hl
    have nx : ∀ cells slots L S sh I J P, K rest cells slots L S sh I J P → RW g ex (dC + 1) mc ms y cells slots (pc + 1) L S sh I J P Q := fun cells slots L S sh I J P h => hK cells slots L S sh I J P _ (by simpa [cp_ends] using c3) h
    dsimp only [cp_vs] at hv
    split at hv
    · 
      simp only [cp_sp, Bool.and_eq_true, decide_eq_true_eq] at c4
      obtain ⟨e1, e2⟩ := c4

      exact r_lstore_n c1 e1 e2 (nx _ _ _ _ _ _ _ _ hv)
    · exact hv.elim
  case astore kk =>
    have hl : len = 2 := by simpa [cp_isTab, cp_len] using c2
    subst hl
    have nx : ∀ cells slots L S sh I J P, K rest cells slots L S sh I J P → RW g ex (dC + 1) mc ms y cells slots (pc + 2) L S sh I J P Q := fun cells slots L S sh I J P h => hK cells slots L S sh I J P _ (by simpa [cp_ends] using c3) h
    dsimp only [cp_vs] at hv
    split at hv
    · 
      simp only [cp_sp, Bool.and_eq_true, decide_eq_true_eq] at c4
      obtain ⟨e1, e2⟩ := c4
      subst e1
      exact r_astore c1 e2 (nx _ _ _ _ _ _ _ _ hv)
    · exact hv.elim
  case astore_n kk =>
    have hl : len = 1 := by simpa [cp_isTab, cp_len] using c2
    subst hl
    have nx : ∀ cells slots L S sh I J P, K rest cells slots L S sh I J P → RW g ex (dC + 1) mc ms y cells slots (pc + 1) L S sh I J P Q := fun cells slots L S sh I J P h => hK cells slots L S sh I J P _ (by simpa [cp_ends] using c3) h
    dsimp only [cp_vs] at hv
    split at hv
    · 
      simp only [cp_sp, Bool.and_eq_true, decide_eq_true_eq] at c4
      obtain ⟨e1, e2⟩ := c4

      exact r_astore_n c1 e1 e2 (nx _ _ _ _ _ _ _ _ hv)
    · exact hv.elim
  case iinc kk nn =>
    have hl : len = 3 := by simpa [cp_isTab, cp_len] using c2
    subst hl
    have nx : ∀ cells slots L S sh I J P, K rest cells slots L S sh I J P → RW g ex (dC + 1) mc ms y cells slots (pc + 3) L S sh I J P Q := fun cells slots L S sh I J P h => hK cells slots L S sh I J P _ (by simpa [cp_ends] using c3) h
    dsimp only [cp_vs] at hv
    split at hv
    · split at hv
      · rename_i hx
        simp only [cp_sp, Bool.and_eq_true, decide_eq_true_eq] at c4
        obtain ⟨⟨e1, e2⟩, e3⟩ := c4
        subst e1
        exact r_iinc c1 e3 e2 hx (nx _ _ _ _ _ _ _ _ hv)
      · exact hv.elim
    · exact hv.elim
  case iadd =>
    have hl : len = 1 := by simpa [cp_isTab, cp_len] using c2
    subst hl
    have nx : ∀ cells slots L S sh I J P, K rest cells slots L S sh I J P → RW g ex (dC + 1) mc ms y cells slots (pc + 1) L S sh I J P Q := fun cells slots L S sh I J P h => hK cells slots L S sh I J P _ (by simpa [cp_ends] using c3) h
    dsimp only [cp_vs] at hv
    split at hv
    · exact r_iadd c1 (nx _ _ _ _ _ _ _ _ hv)
    · exact hv.elim
  case isub =>
    have hl : len = 1 := by simpa [cp_isTab, cp_len] using c2
    subst hl
    have nx : ∀ cells slots L S sh I J P, K rest cells slots L S sh I J P → RW g ex (dC + 1) mc ms y cells slots (pc + 1) L S sh I J P Q := fun cells slots L S sh I J P h => hK cells slots L S sh I J P _ (by simpa [cp_ends] using c3) h
    dsimp only [cp_vs] at hv
    split at hv
    · exact r_isub c1 (nx _ _ _ _ _ _ _ _ hv)
    · exact hv.elim
  case imul =>
    have hl : len = 1 := by simpa [cp_isTab, cp_len] using c2
    subst hl
    have nx : ∀ cells slots L S sh I J P, K rest cells slots L S sh I J P → RW g ex (dC + 1) mc ms y cells slots (pc + 1) L S sh I J P Q := fun cells slots L S sh I J P h => hK cells slots L S sh I J P _ (by simpa [cp_ends] using c3) h
    dsimp only [cp_vs] at hv
    split at hv
    · exact r_imul c1 (nx _ _ _ _ _ _ _ _ hv)
    · exact hv.elim
  case iand =>
    have hl : len = 1 := by simpa [cp_isTab, cp_len] using c2
    subst hl
    have nx : ∀ cells slots L S sh I J P, K rest cells slots L S sh I J P → RW g ex (dC + 1) mc ms y cells slots (pc + 1) L S sh I J P Q := fun cells slots L S sh I J P h => hK cells slots L S sh I J P _ (by simpa [cp_ends] using c3) h
    dsimp only [cp_vs] at hv
    split at hv
    · exact r_iand c1 (nx _ _ _ _ _ _ _ _ hv)
    · exact hv.elim
  case ior =>
    have hl : len = 1 := by simpa [cp_isTab, cp_len] using c2
    subst hl
    have nx : ∀ cells slots L S sh I J P, K rest cells slots L S sh I J P → RW g ex (dC + 1) mc ms y cells slots (pc + 1) L S sh I J P Q := fun cells slots L S sh I J P h => hK cells slots L S sh I J P _ (by simpa [cp_ends] using c3) h
    dsimp only [cp_vs] at hv
    split at hv
    · exact r_ior c1 (nx _ _ _ _ _ _ _ _ hv)
    · exact hv.elim
  case ixor =>
    have hl : len = 1 := by simpa [cp_isTab, cp_len] using c2
    subst hl
    have nx : ∀ cells slots L S sh I J P, K rest cells slots L S sh I J P → RW g ex (dC + 1) mc ms y cells slots (pc + 1) L S sh I J P Q := fun cells slots L S sh I J P h => hK cells slots L S sh I J P _ (by simpa [cp_ends] using c3) h
    dsimp only [cp_vs] at hv
    split at hv
    · exact r_ixor c1 (nx _ _ _ _ _ _ _ _ hv)
    · exact hv.elim
  case ishl =>
    have hl : len = 1 := by simpa [cp_isTab, cp_len] using c2
    subst hl
    have nx : ∀ cells slots L S sh I J P, K rest cells slots L S sh I J P → RW g ex (dC + 1) mc ms y cells slots (pc + 1) L S sh I J P Q := fun cells slots L S sh I J P h => hK cells slots L S sh I J P _ (by simpa [cp_ends] using c3) h
    dsimp only [cp_vs] at hv
    split at hv
    · exact r_ishl c1 (nx _ _ _ _ _ _ _ _ hv)
    · exact hv.elim
  case ishr =>
    have hl : len = 1 := by simpa [cp_isTab, cp_len] using c2
    subst hl
    have nx : ∀ cells slots L S sh I J P, K rest cells slots L S sh I J P → RW g ex (dC + 1) mc ms y cells slots (pc + 1) L S sh I J P Q := fun cells slots L S sh I J P h => hK cells slots L S sh I J P _ (by simpa [cp_ends] using c3) h
    dsimp only [cp_vs] at hv
    split at hv
    · exact r_ishr c1 (nx _ _ _ _ _ _ _ _ hv)
    · exact hv.elim
  case iushr =>
    have hl : len = 1 := by simpa [cp_isTab, cp_len] using c2
    subst hl
    have nx : ∀ cells slots L S sh I J P, K rest cells slots L S sh I J P → RW g ex (dC + 1) mc ms y cells slots (pc + 1) L S sh I J P Q := fun cells slots L S sh I J P h => hK cells slots L S sh I J P _ (by simpa [cp_ends] using c3) h
    dsimp only [cp_vs] at hv
    split at hv
    · exact r_iushr c1 (nx _ _ _ _ _ _ _ _ hv)
    · exact hv.elim
  case ladd =>
    have hl : len = 1 := by simpa [cp_isTab, cp_len] using c2
    subst hl
    have nx : ∀ cells slots L S sh I J P, K rest cells slots L S sh I J P → RW g ex (dC + 1) mc ms y cells slots (pc + 1) L S sh I J P Q := fun cells slots L S sh I J P h => hK cells slots L S sh I J P _ (by simpa [cp_ends] using c3) h
    dsimp only [cp_vs] at hv
    split at hv
    · exact r_ladd c1 (nx _ _ _ _ _ _ _ _ hv)
    · exact hv.elim
  case lmul =>
    have hl : len = 1 := by simpa [cp_isTab, cp_len] using c2
    subst hl
    have nx : ∀ cells slots L S sh I J P, K rest cells slots L S sh I J P → RW g ex (dC + 1) mc ms y cells slots (pc + 1) L S sh I J P Q := fun cells slots L S sh I J P h => hK cells slots L S sh I J P _ (by simpa [cp_ends] using c3) h
    dsimp only [cp_vs] at hv
    split at hv
    · exact r_lmul c1 (nx _ _ _ _ _ _ _ _ hv)
    · exact hv.elim
  case land =>
    have hl : len = 1 := by simpa [cp_isTab, cp_len] using c2
    subst hl
    have nx : ∀ cells slots L S sh I J P, K rest cells slots L S sh I J P → RW g ex (dC + 1) mc ms y cells slots (pc + 1) L S sh I J P Q := fun cells slots L S sh I J P h => hK cells slots L S sh I J P _ (by simpa [cp_ends] using c3) h
    dsimp only [cp_vs] at hv
    split at hv
    · exact r_land c1 (nx _ _ _ _ _ _ _ _ hv)
    · exact hv.elim
  case lor =>
    have hl : len = 1 := by simpa [cp_isTab, cp_len] using c2
    subst hl
    have nx : ∀ cells slots L S sh I J P, K rest cells slots L S sh I J P → RW g ex (dC + 1) mc ms y cells slots (pc + 1) L S sh I J P Q := fun cells slots L S sh I J P h => hK cells slots L S sh I J P _ (by simpa [cp_ends] using c3) h
    dsimp only [cp_vs] at hv
    split at hv
    · exact r_lor c1 (nx _ _ _ _ _ _ _ _ hv)
    · exact hv.elim
  case lsub =>
    have hl : len = 1 := by simpa [cp_isTab, cp_len] using c2
    subst hl
    have nx : ∀ cells slots L S sh I J P, K rest cells slots L S sh I J P → RW g ex (dC + 1) mc ms y cells slots (pc + 1) L S sh I J P Q := fun cells slots L S sh I J P h => hK cells slots L S sh I J P _ (by simpa [cp_ends] using c3) h
    dsimp only [cp_vs] at hv
    split at hv
    · exact r_lsub c1 (nx _ _ _ _ _ _ _ _ hv)
    · exact hv.elim
  case lshl =>
    have hl : len = 1 := by simpa [cp_isTab, cp_len] using c2
    subst hl
    have nx : ∀ cells slots L S sh I J P, K rest cells slots L S sh I J P → RW g ex (dC + 1) mc ms y cells slots (pc + 1) L S sh I J P Q := fun cells slots L S sh I J P h => hK cells slots L S sh I J P _ (by simpa [cp_ends] using c3) h
    dsimp only [cp_vs] at hv
    split at hv
    · exact r_lshl c1 (nx _ _ _ _ _ _ _ _ hv)
    · exact hv.elim
  case lshr =>
    have hl : len = 1 := by simpa [cp_isTab, cp_len] using c2
    subst hl
    have nx : ∀ cells slots L S sh I J P, K rest cells slots L S sh I J P → RW g ex (dC + 1) mc ms y cells slots (pc + 1) L S sh I J P Q := fun cells slots L S sh I J P h => hK cells slots L S sh I J P _ (by simpa [cp_ends] using c3) h
    dsimp only [cp_vs] at hv
    split at hv
    · exact r_lshr c1 (nx _ _ _ _ _ _ _ _ hv)
    · exact hv.elim
  case ineg =>
    have hl : len = 1 := by simpa [cp_isTab, cp_len] using c2
    subst hl
    have nx : ∀ cells slots L S sh I J P, K rest cells slots L S sh I J P → RW g ex (dC + 1) mc ms y cells slots (pc + 1) L S sh I J P Q := fun cells slots L S sh I J P h => hK cells slots L S sh I J P _ (by simpa [cp_ends] using c3) h
    dsimp only [cp_vs] at hv
    split at hv
    · exact r_ineg c1 (nx _ _ _ _ _ _ _ _ hv)
    · exact hv.elim
  case i2l =>
    have hl : len = 1 := by simpa [cp_isTab, cp_len] using c2
    subst hl
    have nx : ∀ cells slots L S sh I J P, K rest cells slots L S sh I J P → RW g ex (dC + 1) mc ms y cells slots (pc + 1) L S sh I J P Q := fun cells slots L S sh I J P h => hK cells slots L S sh I J P _ (by simpa [cp_ends] using c3) h
    dsimp only [cp_vs] at hv
    split at hv
    · exact r_i2l c1 (nx _ _ _ _ _ _ _ _ hv)
    · exact hv.elim
  case i2b =>
    have hl : len = 1 := by simpa [cp_isTab, cp_len] using c2
    subst hl
    have nx : ∀ cells slots L S sh I J P, K rest cells slots L S sh I J P → RW g ex (dC + 1) mc ms y cells slots (pc + 1) L S sh I J P Q := fun cells slots L S sh I J P h => hK cells slots L S sh I J P _ (by simpa [cp_ends] using c3) h
    dsimp only [cp_vs] at hv
    split at hv
    · exact r_i2b c1 (nx _ _ _ _ _ _ _ _ hv)
    · exact hv.elim
  case i2c =>
    have hl : len = 1 := by simpa [cp_isTab, cp_len] using c2
    subst hl
    have nx : ∀ cells slots L S sh I J P, K rest cells slots L S sh I J P → RW g ex (dC + 1) mc ms y cells slots (pc + 1) L S sh I J P Q := fun cells slots L S sh I J P h => hK cells slots L S sh I J P _ (by simpa [cp_ends] using c3) h
    dsimp only [cp_vs] at hv
    split at hv
    · exact r_i2c c1 (nx _ _ _ _ _ _ _ _ hv)
    · exact hv.elim
  case lcmp =>
    have hl : len = 1 := by simpa [cp_isTab, cp_len] using c2
    subst hl
    have nx : ∀ cells slots L S sh I J P, K rest cells slots L S sh I J P → RW g ex (dC + 1) mc ms y cells slots (pc + 1) L S sh I J P Q := fun cells slots L S sh I J P h => hK cells slots L S sh I J P _ (by simpa [cp_ends] using c3) h
    dsimp only [cp_vs] at hv
    split at hv
    · exact r_lcmp c1 (nx _ _ _ _ _ _ _ _ hv)
    · exact hv.elim
  case idiv =>
    have hl : len = 1 := by simpa [cp_isTab, cp_len] using c2
    subst hl
    have nx : ∀ cells slots L S sh I J P, K rest cells slots L S sh I J P → RW g ex (dC + 1) mc ms y cells slots (pc + 1) L S sh I J P Q := fun cells slots L S sh I J P h => hK cells slots L S sh I J P _ (by simpa [cp_ends] using c3) h
    dsimp only [cp_vs] at hv
    split at hv
    · exact r_idiv c1 hv.1 (nx _ _ _ _ _ _ _ _ hv.2)
    · exact hv.elim
  case irem =>
    have hl : len = 1 := by simpa [cp_isTab, cp_len] using c2
    subst hl
    have nx : ∀ cells slots L S sh I J P, K rest cells slots L S sh I J P → RW g ex (dC + 1) mc ms y cells slots (pc + 1) L S sh I J P Q := fun cells slots L S sh I J P h => hK cells slots L S sh I J P _ (by simpa [cp_ends] using c3) h
    dsimp only [cp_vs] at hv
    split at hv
    · exact r_irem c1 hv.1 (nx _ _ _ _ _ _ _ _ hv.2)
    · exact hv.elim
  case ldiv =>
    have hl : len = 1 := by simpa [cp_isTab, cp_len] using c2
    subst hl
    have nx : ∀ cells slots L S sh I J P, K rest cells slots L S sh I J P → RW g ex (dC + 1) mc ms y cells slots (pc + 1) L S sh I J P Q := fun cells slots L S sh I J P h => hK cells slots L S sh I J P _ (by simpa [cp_ends] using c3) h
    dsimp only [cp_vs] at hv
    split at hv
    · exact r_ldiv c1 hv.1 (nx _ _ _ _ _ _ _ _ hv.2)
    · exact hv.elim
  case lrem =>
    have hl : len = 1 := by simpa [cp_isTab, cp_len] using c2
    subst hl
    have nx : ∀ cells slots L S sh I J P, K rest cells slots L S sh I J P → RW g ex (dC + 1) mc ms y cells slots (pc + 1) L S sh I J P Q := fun cells slots L S sh I J P h => hK cells slots L S sh I J P _ (by simpa [cp_ends] using c3) h
    dsimp only [cp_vs] at hv
    split at hv
    · exact r_lrem c1 hv.1 (nx _ _ _ _ _ _ _ _ hv.2)
    · exact hv.elim
  case dup =>
    have hl : len = 1 := by simpa [cp_isTab, cp_len] using c2
    subst hl
    have nx : ∀ cells slots L S sh I J P, K rest cells slots L S sh I J P → RW g ex (dC + 1) mc ms y cells slots (pc + 1) L S sh I J P Q := fun cells slots L S sh I J P h => hK cells slots L S sh I J P _ (by simpa [cp_ends] using c3) h
    dsimp only [cp_vs] at hv
    split at hv
    · exact r_dup c1 hv.1 (nx _ _ _ _ _ _ _ _ hv.2)
    · exact hv.elim
  case pop =>
    have hl : len = 1 := by simpa [cp_isTab, cp_len] using c2
    subst hl
    have nx : ∀ cells slots L S sh I J P, K rest cells slots L S sh I J P → RW g ex (dC + 1) mc ms y cells slots (pc + 1) L S sh I J P Q := fun cells slots L S sh I J P h => hK cells slots L S sh I J P _ (by simpa [cp_ends] using c3) h
    dsimp only [cp_vs] at hv
    split at hv
    · exact r_pop c1 hv.1 (nx _ _ _ _ _ _ _ _ hv.2)
    · exact hv.elim
  case dup2 =>
    have hl : len = 1 := by simpa [cp_isTab, cp_len] using c2
    subst hl
    have nx : ∀ cells slots L S sh I J P, K rest cells slots L S sh I J P → RW g ex (dC + 1) mc ms y cells slots (pc + 1) L S sh I J P Q := fun cells slots L S sh I J P h => hK cells slots L S sh I J P _ (by simpa [cp_ends] using c3) h
    dsimp only [cp_vs] at hv
    split at hv
    · exact r_dup2 c1 hv.1 hv.2.1 (nx _ _ _ _ _ _ _ _ hv.2.2)
    · exact hv.elim
  case ifCond cd off =>
    have hl : len = 3 := by simpa [cp_isTab, cp_len] using c2
    subst hl
    have nx : ∀ cells slots L S sh I J P, K rest cells slots L S sh I J P → RW g ex (dC + 1) mc ms y cells slots (pc + 3) L S sh I J P Q := fun cells slots L S sh I J P h => hK cells slots L S sh I J P _ (by simpa [cp_ends] using c3) h
    dsimp only [cp_vs] at hv
    split at hv
    · simp only [cp_sp, decide_eq_true_eq] at c4
      cases cd
      · exact r_if_eq c1 c4 (fun q => hG _ _ _ _ _ _ _ _ _ (hv.1 q)) (fun q => nx _ _ _ _ _ _ _ _ (hv.2 q))
      · exact r_if_ne c1 c4 (fun q => hG _ _ _ _ _ _ _ _ _ (hv.1 q)) (fun q => nx _ _ _ _ _ _ _ _ (hv.2 (Classical.not_not.mp q)))
      · exact r_if_lt c1 c4 (fun q => hG _ _ _ _ _ _ _ _ _ (hv.1 q)) (fun q => nx _ _ _ _ _ _ _ _ (hv.2 q))
      · exact r_if_ge c1 c4 (fun q => hG _ _ _ _ _ _ _ _ _ (hv.1 q)) (fun q => nx _ _ _ _ _ _ _ _ (hv.2 q))
      · exact r_if_gt c1 c4 (fun q => hG _ _ _ _ _ _ _ _ _ (hv.1 q)) (fun q => nx _ _ _ _ _ _ _ _ (hv.2 q))
      · exact r_if_le c1 c4 (fun q => hG _ _ _ _ _ _ _ _ _ (hv.1 q)) (fun q => nx _ _ _ _ _ _ _ _ (hv.2 q))
    · exact hv.elim
  case if_icmp cd off =>
    have hl : len = 3 := by simpa [cp_isTab, cp_len] using c2
    subst hl
    have nx : ∀ cells slots L S sh I J P, K rest cells slots L S sh I J P → RW g ex (dC + 1) mc ms y cells slots (pc + 3) L S sh I J P Q := fun cells slots L S sh I J P h => hK cells slots L S sh I J P _ (by simpa [cp_ends] using c3) h
    dsimp only [cp_vs] at hv
    split at hv
    · simp only [cp_sp, decide_eq_true_eq] at c4
      cases cd
      · exact r_icmp_eq c1 c4 (fun q => hG _ _ _ _ _ _ _ _ _ (hv.1 q)) (fun q => nx _ _ _ _ _ _ _ _ (hv.2 q))
      · exact r_icmp_ne c1 c4 (fun q => hG _ _ _ _ _ _ _ _ _ (hv.1 q)) (fun q => nx _ _ _ _ _ _ _ _ (hv.2 (Classical.not_not.mp q)))
      · exact r_icmp_lt c1 c4 (fun q => hG _ _ _ _ _ _ _ _ _ (hv.1 q)) (fun q => nx _ _ _ _ _ _ _ _ (hv.2 q))
      · exact r_icmp_ge c1 c4 (fun q => hG _ _ _ _ _ _ _ _ _ (hv.1 q)) (fun q => nx _ _ _ _ _ _ _ _ (hv.2 q))
      · exact r_icmp_gt c1 c4 (fun q => hG _ _ _ _ _ _ _ _ _ (hv.1 q)) (fun q => nx _ _ _ _ _ _ _ _ (hv.2 q))
      · exact r_icmp_le c1 c4 (fun q => hG _ _ _ _ _ _ _ _ _ (hv.1 q)) (fun q => nx _ _ _ _ _ _ _ _ (hv.2 q))
    · exact hv.elim
  case goto off =>
    have hl : len = 3 := by simpa [cp_isTab, cp_len] using c2
    subst hl
    dsimp only [cp_vs] at hv
    split at hv
    · simp only [cp_sp, decide_eq_true_eq] at c4
      exact r_goto c1 c4 (hG _ _ _ _ _ _ _ _ _ hv)
    · exact hv.elim
  case tableswitch dflt lo hi offs =>
    dsimp only [cp_vs] at hv
    split at hv
    · rename_i td ts a S'
      simp only [cp_sp, Bool.and_eq_true, decide_eq_true_eq, List.all_eq_true, List.mem_range] at c4
      obtain ⟨⟨e1, e2⟩, e3⟩ := c4
      by_cases hO : a.toInt < lo ∨ hi < a.toInt
      · exact r_tabO c1 hO e1 (hG _ _ _ _ _ _ _ _ _ (hv.1 hO))
      · have h1 : ¬ a.toInt < lo := fun q => hO (Or.inl q)
        have h2 : ¬ hi < a.toInt := fun q => hO (Or.inr q)
        have hj : (a.toInt - lo).toNat < ts.length := by omega
        have e4 := e3 _ hj
        obtain ⟨t, ht⟩ : ∃ t, ts[(a.toInt - lo).toNat]? = some t := ⟨_, List.getElem?_eq_getElem hj⟩
        rw [ht] at e4
        cases ho : offs[(a.toInt - lo).toNat]? with
        | none => rw [ho] at e4; cases e4
        | some off =>
          rw [ho] at e4
          exact r_tabI c1 h1 h2 ho (Option.some.inj e4) (hG _ _ _ _ _ _ _ _ _ (cp_sw_get ts lo hv.2 _ t ht (by omega)))
    · exact hv.elim
  case ireturn =>
    have hl : len = 1 := by simpa [cp_isTab, cp_len] using c2
    subst hl
    dsimp only [cp_vs] at hv
    split at hv
    · simp only [cp_sp, decide_eq_true_eq] at c4
      exact r_iret c4 rfl hv.1 c1 hv.2
    · simp only [cp_sp, decide_eq_true_eq] at c4
      exact r_iret c4 (by rcases hv.1 with q | q <;> rw [q] <;> rfl) hv.2.1 c1 hv.2.2
    · simp only [cp_sp, decide_eq_true_eq] at c4
      exact r_iret c4 (by show Value.int _ = Value.int _; rw [hv.1]) hv.2.1 c1 hv.2.2
    · simp only [cp_sp, decide_eq_true_eq] at c4
      exact r_iret c4 (by show Value.int _ = Value.int _; rw [hv.1]) hv.2.1 c1 hv.2.2
    · exact hv.elim
  case lreturn =>
    have hl : len = 1 := by simpa [cp_isTab, cp_len] using c2
    subst hl
    dsimp only [cp_vs] at hv
    split at hv
    · simp only [cp_sp, decide_eq_true_eq] at c4
      exact r_lret c4 hv.1 c1 hv.2
    · exact hv.elim
  case return_ =>
    have hl : len = 1 := by simpa [cp_isTab, cp_len] using c2
    subst hl
    dsimp only [cp_vs] at hv
    split at hv
    · simp only [cp_sp, decide_eq_true_eq] at c4
      exact r_vret c4 hv.1 c1 hv.2
    · exact hv.elim
  case getstatic ix =>
    have hl : len = 3 := by simpa [cp_isTab, cp_len] using c2
    subst hl
    have nx : ∀ cells slots L S sh I J P, K rest cells slots L S sh I J P → RW g ex (dC + 1) mc ms y cells slots (pc + 3) L S sh I J P Q := fun cells slots L S sh I J P h => hK cells slots L S sh I J P _ (by simpa [cp_ends] using c3) h
    dsimp only [cp_vs] at hv
    split at hv
    · cases pos with
      | nil => simp [cp_sp] at c4
      | cons p ps => cases ps with
        | nil => exact r_gsC (cp_at_ok c4) c1 (nx _ _ _ _ _ _ _ _ hv)
        | cons _ _ => simp [cp_sp] at c4
    · cases pos with
      | nil => simp [cp_sp] at c4
      | cons p ps => cases ps with
        | nil => exact r_gsF (cp_at_ok c4) c1 (nx _ _ _ _ _ _ _ _ hv)
        | cons _ _ => simp [cp_sp] at c4
    · exact hv.elim
  case getfield ix =>
    have hl : len = 3 := by simpa [cp_isTab, cp_len] using c2
    subst hl
    have nx : ∀ cells slots L S sh I J P, K rest cells slots L S sh I J P → RW g ex (dC + 1) mc ms y cells slots (pc + 3) L S sh I J P Q := fun cells slots L S sh I J P h => hK cells slots L S sh I J P _ (by simpa [cp_ends] using c3) h
    dsimp only [cp_vs] at hv
    split at hv
    · rename_i ci j N a S'
      cases pos with
      | nil => simp [cp_sp] at c4
      | cons p ps => cases ps with
        | nil =>
          simp only [cp_sp] at c4
          cases hq : vwCl[ci]? with
          | none => rw [hq] at c4; cases c4
          | some q =>
            obtain ⟨C, T, N'⟩ := q
            rw [hq] at c4
            simp only [Bool.and_eq_true, decide_eq_true_eq] at c4
            obtain ⟨⟨⟨e1, e2⟩, e3⟩, e4⟩ := c4
            subst e1
            refine r_get hq e2 (cp_at_ok e4) hv.1 c1 ?_
            have e5 : cp_fa (cp_ty ci j) (I a j) (J a j) (P a j) = .int (I a j) := by
              cases ht : cp_ty ci j <;> rw [ht] at e3 <;> first | rfl | (simp [cp_tc] at e3; done)
            rw [e5]
            exact nx _ _ _ _ _ _ _ _ hv.2
        | cons _ _ => simp [cp_sp] at c4
    · rename_i ci j N a S'
      cases pos with
      | nil => simp [cp_sp] at c4
      | cons p ps => cases ps with
        | nil =>
          simp only [cp_sp] at c4
          cases hq : vwCl[ci]? with
          | none => rw [hq] at c4; cases c4
          | some q =>
            obtain ⟨C, T, N'⟩ := q
            rw [hq] at c4
            simp only [Bool.and_eq_true, decide_eq_true_eq] at c4
            obtain ⟨⟨⟨e1, e2⟩, e3⟩, e4⟩ := c4
            subst e1
            refine r_get hq e2 (cp_at_ok e4) hv.1 c1 ?_
            have e5 : cp_fa (cp_ty ci j) (I a j) (J a j) (P a j) = .long (J a j) := by
              cases ht : cp_ty ci j <;> rw [ht] at e3 <;> first | rfl | (simp [cp_tc] at e3; done)
            rw [e5]
            exact nx _ _ _ _ _ _ _ _ hv.2
        | cons _ _ => simp [cp_sp] at c4
    · rename_i ci j N a S'
      cases pos with
      | nil => simp [cp_sp] at c4
      | cons p ps => cases ps with
        | nil =>
          simp only [cp_sp] at c4
          cases hq : vwCl[ci]? with
          | none => rw [hq] at c4; cases c4
          | some q =>
            obtain ⟨C, T, N'⟩ := q
            rw [hq] at c4
            simp only [Bool.and_eq_true, decide_eq_true_eq] at c4
            obtain ⟨⟨⟨e1, e2⟩, e3⟩, e4⟩ := c4
            subst e1
            refine r_get hq e2 (cp_at_ok e4) hv.1 c1 ?_
            have e5 : cp_fa (cp_ty ci j) (I a j) (J a j) (P a j) = P a j := by
              cases ht : cp_ty ci j <;> rw [ht] at e3 <;> first | rfl | (simp [cp_tc] at e3; done)
            rw [e5]
            exact nx _ _ _ _ _ _ _ _ hv.2
        | cons _ _ => simp [cp_sp] at c4
    · rename_i a S'
      cases pos with
      | nil => simp [cp_sp] at c4
      | cons p ps => cases ps with
        | nil =>
          obtain ⟨e1, e2, e3⟩ := hv
          obtain ⟨j, rfl⟩ : ∃ j, a = 1000 + j := ⟨a - 1000, (Nat.add_sub_of_le e1).symm⟩
          rw [Nat.add_sub_cancel_left] at e2
          have e4 : cp_tx.length < 1000 := by decide
          refine r_sgV (List.getElem?_eq_getElem e2) (Nat.lt_trans e2 e4) (cp_at_ok c4) c1 ?_
          rw [show 1000 + j + 1000 = 2000 + j from Nat.add_right_comm 1000 j 1000] at e3
          exact nx _ _ _ _ _ _ _ _ e3
        | cons _ _ => simp [cp_sp] at c4
    · rename_i a S'
      cases pos with
      | nil => simp [cp_sp] at c4
      | cons p ps => cases ps with
        | nil =>
          obtain ⟨e1, e2, e3⟩ := hv
          obtain ⟨j, rfl⟩ : ∃ j, a = 1000 + j := ⟨a - 1000, (Nat.add_sub_of_le e1).symm⟩
          rw [Nat.add_sub_cancel_left] at e2
          have e4 : cp_tx.length < 1000 := by decide
          exact r_sgC (List.getElem?_eq_getElem e2) (Nat.lt_trans e2 e4) (cp_at_ok c4) c1 (nx _ _ _ _ _ _ _ _ e3)
        | cons _ _ => simp [cp_sp] at c4
    · exact hv.elim
  case putfield ix =>
    have hl : len = 3 := by simpa [cp_isTab, cp_len] using c2
    subst hl
    have nx : ∀ cells slots L S sh I J P, K rest cells slots L S sh I J P → RW g ex (dC + 1) mc ms y cells slots (pc + 3) L S sh I J P Q := fun cells slots L S sh I J P h => hK cells slots L S sh I J P _ (by simpa [cp_ends] using c3) h
    dsimp only [cp_vs] at hv
    split at hv
    · rename_i ci j N x a S'
      cases pos with
      | nil => simp [cp_sp] at c4
      | cons p ps => cases ps with
        | nil =>
          simp only [cp_sp] at c4
          cases hq : vwCl[ci]? with
          | none => rw [hq] at c4; cases c4
          | some q =>
            obtain ⟨C, T, N'⟩ := q
            rw [hq] at c4
            simp only [Bool.and_eq_true, Bool.or_eq_true, decide_eq_true_eq] at c4
            obtain ⟨⟨⟨⟨e1, e2⟩, e3⟩, e4⟩, e6⟩ := c4
            subst e1
            refine r_put (v := .int x) (I' := cp_u I a j x) (J' := J) (P' := P) hq e2 (cp_at_ok e4) e6 hv.1 ?_ ?_ (fun b k hb => by first | rfl | exact if_neg hb) (fun b k hb => by first | rfl | exact if_neg hb) (fun b k hb => by first | rfl | exact if_neg hb) c1 (nx _ _ _ _ _ _ _ _ hv.2)
            · cases ht : cp_ty ci j <;> rw [ht] at e3 <;> first | (simp [cp_tcp] at e3; done) | exact ⟨rfl, rfl⟩
            · cases ht : cp_ty ci j <;> rw [ht] at e3 <;> first | (simp [cp_tcp] at e3; done) | (simp [cp_fa, cp_u]; done)
        | cons _ _ => simp [cp_sp] at c4
    · rename_i ci j N x a S'
      cases pos with
      | nil => simp [cp_sp] at c4
      | cons p ps => cases ps with
        | nil =>
          simp only [cp_sp] at c4
          cases hq : vwCl[ci]? with
          | none => rw [hq] at c4; cases c4
          | some q =>
            obtain ⟨C, T, N'⟩ := q
            rw [hq] at c4
            simp only [Bool.and_eq_true, Bool.or_eq_true, decide_eq_true_eq] at c4
            obtain ⟨⟨⟨⟨e1, e2⟩, e3⟩, e4⟩, e6⟩ := c4
            subst e1
            refine r_put (v := .int x) (I' := cp_u I a j x) (J' := J) (P' := P) hq e2 (cp_at_ok e4) e6 hv.2.1 ?_ ?_ (fun b k hb => by first | rfl | exact if_neg hb) (fun b k hb => by first | rfl | exact if_neg hb) (fun b k hb => by first | rfl | exact if_neg hb) c1 (nx _ _ _ _ _ _ _ _ hv.2.2)
            · cases ht : cp_ty ci j <;> rw [ht] at e3 <;> first | (simp [cp_tcp] at e3; done) | (rcases hv.1 with q | q <;> rw [q] <;> exact ⟨rfl, rfl⟩)
            · cases ht : cp_ty ci j <;> rw [ht] at e3 <;> first | (simp [cp_tcp] at e3; done) | (simp [cp_fa, cp_u]; done)
        | cons _ _ => simp [cp_sp] at c4
    · rename_i ci j N x a S'
      cases pos with
      | nil => simp [cp_sp] at c4
      | cons p ps => cases ps with
        | nil =>
          simp only [cp_sp] at c4
          cases hq : vwCl[ci]? with
          | none => rw [hq] at c4; cases c4
          | some q =>
            obtain ⟨C, T, N'⟩ := q
            rw [hq] at c4
            simp only [Bool.and_eq_true, Bool.or_eq_true, decide_eq_true_eq] at c4
            obtain ⟨⟨⟨⟨e1, e2⟩, e3⟩, e4⟩, e6⟩ := c4
            subst e1
            refine r_put (v := .long x) (I' := I) (J' := cp_u J a j x) (P' := P) hq e2 (cp_at_ok e4) e6 hv.1 ?_ ?_ (fun b k hb => by first | rfl | exact if_neg hb) (fun b k hb => by first | rfl | exact if_neg hb) (fun b k hb => by first | rfl | exact if_neg hb) c1 (nx _ _ _ _ _ _ _ _ hv.2)
            · cases ht : cp_ty ci j <;> rw [ht] at e3 <;> first | (simp [cp_tcp] at e3; done) | exact ⟨rfl, rfl⟩
            · cases ht : cp_ty ci j <;> rw [ht] at e3 <;> first | (simp [cp_tcp] at e3; done) | (simp [cp_fa, cp_u]; done)
        | cons _ _ => simp [cp_sp] at c4
    · rename_i ci j N x a S'
      cases pos with
      | nil => simp [cp_sp] at c4
      | cons p ps => cases ps with
        | nil =>
          simp only [cp_sp] at c4
          cases hq : vwCl[ci]? with
          | none => rw [hq] at c4; cases c4
          | some q =>
            obtain ⟨C, T, N'⟩ := q
            rw [hq] at c4
            simp only [Bool.and_eq_true, Bool.or_eq_true, decide_eq_true_eq] at c4
            obtain ⟨⟨⟨⟨e1, e2⟩, e3⟩, e4⟩, e6⟩ := c4
            subst e1
            refine r_put (v := .ref x) (I' := I) (J' := J) (P' := cp_u P a j (.ref x)) hq e2 (cp_at_ok e4) e6 hv.1 ?_ ?_ (fun b k hb => by first | rfl | exact if_neg hb) (fun b k hb => by first | rfl | exact if_neg hb) (fun b k hb => by first | rfl | exact if_neg hb) c1 (nx _ _ _ _ _ _ _ _ hv.2)
            · cases ht : cp_ty ci j <;> rw [ht] at e3 <;> first | (simp [cp_tcp] at e3; done) | exact ⟨rfl, rfl⟩
            · cases ht : cp_ty ci j <;> rw [ht] at e3 <;> first | (simp [cp_tcp] at e3; done) | (simp [cp_fa, cp_u]; done)
        | cons _ _ => simp [cp_sp] at c4
    · exact hv.elim
  case iaload =>
    have hl : len = 1 := by simpa [cp_isTab, cp_len] using c2
    subst hl
    have nx : ∀ cells slots L S sh I J P, K rest cells slots L S sh I J P → RW g ex (dC + 1) mc ms y cells slots (pc + 1) L S sh I J P Q := fun cells slots L S sh I J P h => hK cells slots L S sh I J P _ (by simpa [cp_ends] using c3) h
    dsimp only [cp_vs] at hv
    split at hv
    · rename_i i a S'
      exact r_iald (Prod.ext hv.1 rfl : cp_sh sh a = (0, (cp_sh sh a).2)) hv.2.1 c1 (nx _ _ _ _ _ _ _ _ hv.2.2)
    · rename_i i a S'
      obtain ⟨rfl, e2, e3⟩ := hv
      exact r_sld e2 c1 (nx _ _ _ _ _ _ _ _ e3)
    · exact hv.elim
  case baload =>
    have hl : len = 1 := by simpa [cp_isTab, cp_len] using c2
    subst hl
    have nx : ∀ cells slots L S sh I J P, K rest cells slots L S sh I J P → RW g ex (dC + 1) mc ms y cells slots (pc + 1) L S sh I J P Q := fun cells slots L S sh I J P h => hK cells slots L S sh I J P _ (by simpa [cp_ends] using c3) h
    dsimp only [cp_vs] at hv
    split at hv
    · rename_i i a S'
      exact r_bald (Prod.ext hv.1 rfl : cp_sh sh a = (1, (cp_sh sh a).2)) hv.2.1 c1 (nx _ _ _ _ _ _ _ _ hv.2.2)
    · rename_i i a S'
      obtain ⟨e1, e2, e3⟩ := hv
      obtain ⟨j, rfl⟩ : ∃ j, a = 2000 + j := ⟨a - 2000, (Nat.add_sub_of_le e1).symm⟩
      rw [Nat.add_sub_cancel_left] at e2 e3
      cases ht : cp_tx[j]? with
      | none =>
        rw [List.getD_eq_getElem?_getD, ht] at e2
        exact absurd (Nat.zero_le _) (fun q => e2 (Or.inr q))
      | some t =>
        have hg : cp_tx.getD j [] = t := by rw [List.getD_eq_getElem?_getD, ht]; rfl
        rw [hg] at e2 e3
        exact r_stb ht e2 c1 (nx _ _ _ _ _ _ _ _ e3)
    · exact hv.elim
  case laload =>
    have hl : len = 1 := by simpa [cp_isTab, cp_len] using c2
    subst hl
    have nx : ∀ cells slots L S sh I J P, K rest cells slots L S sh I J P → RW g ex (dC + 1) mc ms y cells slots (pc + 1) L S sh I J P Q := fun cells slots L S sh I J P h => hK cells slots L S sh I J P _ (by simpa [cp_ends] using c3) h
    dsimp only [cp_vs] at hv
    split at hv
    · rename_i i a S'
      exact r_lald (Prod.ext hv.1 rfl : cp_sh sh a = (2, (cp_sh sh a).2)) hv.2.1 c1 (nx _ _ _ _ _ _ _ _ hv.2.2)
    · exact hv.elim
  case iastore =>
    have hl : len = 1 := by simpa [cp_isTab, cp_len] using c2
    subst hl
    have nx : ∀ cells slots L S sh I J P, K rest cells slots L S sh I J P → RW g ex (dC + 1) mc ms y cells slots (pc + 1) L S sh I J P Q := fun cells slots L S sh I J P h => hK cells slots L S sh I J P _ (by simpa [cp_ends] using c3) h
    dsimp only [cp_vs] at hv
    split at hv
    · rename_i x i a S'
      exact r_iast (Prod.ext hv.1 rfl : cp_sh sh a = (0, (cp_sh sh a).2)) hv.2.1 c1 (nx _ _ _ _ _ _ _ _ hv.2.2)
    · exact hv.elim
  case bastore =>
    have hl : len = 1 := by simpa [cp_isTab, cp_len] using c2
    subst hl
    have nx : ∀ cells slots L S sh I J P, K rest cells slots L S sh I J P → RW g ex (dC + 1) mc ms y cells slots (pc + 1) L S sh I J P Q := fun cells slots L S sh I J P h => hK cells slots L S sh I J P _ (by simpa [cp_ends] using c3) h
    dsimp only [cp_vs] at hv
    split at hv
    · rename_i x i a S'
      exact r_bast (Prod.ext hv.1 rfl : cp_sh sh a = (1, (cp_sh sh a).2)) hv.2.1 c1 (nx _ _ _ _ _ _ _ _ hv.2.2)
    · exact hv.elim
  case lastore =>
    have hl : len = 1 := by simpa [cp_isTab, cp_len] using c2
    subst hl
    have nx : ∀ cells slots L S sh I J P, K rest cells slots L S sh I J P → RW g ex (dC + 1) mc ms y cells slots (pc + 1) L S sh I J P Q := fun cells slots L S sh I J P h => hK cells slots L S sh I J P _ (by simpa [cp_ends] using c3) h
    dsimp only [cp_vs] at hv
    split at hv
    · rename_i x i a S'
      exact r_last (Prod.ext hv.1 rfl : cp_sh sh a = (2, (cp_sh sh a).2)) hv.2.1 c1 (nx _ _ _ _ _ _ _ _ hv.2.2)
    · exact hv.elim
  case arraylength =>
    have hl : len = 1 := by simpa [cp_isTab, cp_len] using c2
    subst hl
    have nx : ∀ cells slots L S sh I J P, K rest cells slots L S sh I J P → RW g ex (dC + 1) mc ms y cells slots (pc + 1) L S sh I J P Q := fun cells slots L S sh I J P h => hK cells slots L S sh I J P _ (by simpa [cp_ends] using c3) h
    dsimp only [cp_vs] at hv
    split at hv
    · rename_i a S'
      exact r_alen (cd := (cp_sh sh a).1) (n := (cp_sh sh a).2) rfl hv.1 hv.2.1 c1 (nx _ _ _ _ _ _ _ _ hv.2.2)
    · rename_i a S'
      obtain ⟨rfl, e3⟩ := hv
      exact r_slen c1 (nx _ _ _ _ _ _ _ _ e3)
    · rename_i a S'
      obtain ⟨e1, e2, e3⟩ := hv
      obtain ⟨j, rfl⟩ : ∃ j, a = 2000 + j := ⟨a - 2000, (Nat.add_sub_of_le e1).symm⟩
      rw [Nat.add_sub_cancel_left] at e2 e3
      rw [List.getD_eq_getElem?_getD, List.getElem?_eq_getElem e2] at e3
      exact r_stlen (List.getElem?_eq_getElem e2) c1 (nx _ _ _ _ _ _ _ _ e3)
    · exact hv.elim
  case new ix =>
    have hl : len = 3 := by simpa [cp_isTab, cp_len] using c2
    subst hl
    have nx : ∀ cells slots L S sh I J P, K rest cells slots L S sh I J P → RW g ex (dC + 1) mc ms y cells slots (pc + 3) L S sh I J P Q := fun cells slots L S sh I J P h => hK cells slots L S sh I J P _ (by simpa [cp_ends] using c3) h
    dsimp only [cp_vs] at hv
    split at hv
    · rename_i ci N
      obtain ⟨h1, h2, h3, h4, h5⟩ := hv
      match pos, c4 with
      | [p1, p2, p3], c4 =>
        simp only [cp_sp] at c4
        cases hq : vwCl[ci]? with
        | none => rw [hq] at c4; cases c4
        | some q =>
          obtain ⟨C, T, N'⟩ := q
          rw [hq] at c4
          simp only [Bool.and_eq_true, decide_eq_true_eq] at c4
          obtain ⟨⟨⟨e1, e2⟩, e3⟩, e4⟩ := c4
          subst e1
          exact r_new h1 hq (cp_at_ok e2) (cp_at_ok e3) (cp_at_ok e4) h2 h3 h4 c1 (nx _ _ _ _ _ _ _ _ h5)
      | [], c4 => simp [cp_sp] at c4
      | [_], c4 => simp [cp_sp] at c4
      | [_, _], c4 => simp [cp_sp] at c4
      | _ :: _ :: _ :: _ :: _, c4 => simp [cp_sp] at c4
    · exact hv.elim
  case newarray ty =>
    have hl : len = 2 := by simpa [cp_isTab, cp_len] using c2
    subst hl
    have nx : ∀ cells slots L S sh I J P, K rest cells slots L S sh I J P → RW g ex (dC + 1) mc ms y cells slots (pc + 2) L S sh I J P Q := fun cells slots L S sh I J P h => hK cells slots L S sh I J P _ (by simpa [cp_ends] using c3) h
    dsimp only [cp_vs] at hv
    split at hv
    · rename_i cd n S'
      obtain ⟨h1, h2, h3, h4, h5, h6, h7⟩ := hv
      match pos, c4 with
      | [p], c4 =>
        simp only [cp_sp, Bool.and_eq_true, decide_eq_true_eq] at c4
        obtain ⟨⟨e1, e2⟩, e3⟩ := c4
        subst e2
        exact r_newa h1 e1 (cp_at_ok e3) h2 rfl h3 h4 h5 h6 c1 (nx _ _ _ _ _ _ _ _ h7)
      | [], c4 => simp [cp_sp] at c4
      | _ :: _ :: _, c4 => simp [cp_sp] at c4
    · exact hv.elim
  case invokevirtual ix =>
    have hl : len = 3 := by simpa [cp_isTab, cp_len] using c2
    subst hl
    have nx : ∀ cells slots L S sh I J P, K rest cells slots L S sh I J P → RW g ex (dC + 1) mc ms y cells slots (pc + 3) L S sh I J P Q := fun cells slots L S sh I J P h => hK cells slots L S sh I J P _ (by simpa [cp_ends] using c3) h
    dsimp only [cp_vs] at hv
    split at hv
    · rename_i n ci N mcC msC
      split at hv
      · rename_i as b S' hpop
        obtain ⟨h1, h2, h3, h4, h5⟩ := hv
        obtain ⟨hS, hn⟩ := cp_pop0 hpop
        subst hS
        match pos, c4 with
        | [p1, p2, p3], c4 =>
          simp only [cp_sp] at c4
          cases hq : vwCl[ci]? with
          | none => rw [hq] at c4; cases c4
          | some q =>
            obtain ⟨C, T, N'⟩ := q
            rw [hq] at c4
            simp only [Bool.and_eq_true, decide_eq_true_eq] at c4
            obtain ⟨⟨⟨⟨e1, e2⟩, e3⟩, e4⟩, e5⟩ := c4
            subst e1
            exact r_callV h5 (Nat.le_refl _) hq h2 (cp_at_ok e2) (cp_at_ok e3) (cp_at_ok e4) e5 hn h1 h3 h4 c1 (fun v sh1 I1 J1 P1 h => nx _ _ _ _ _ _ _ _ h)
        | [], c4 => simp [cp_sp] at c4
        | [_], c4 => simp [cp_sp] at c4
        | [_, _], c4 => simp [cp_sp] at c4
        | _ :: _ :: _ :: _ :: _, c4 => simp [cp_sp] at c4
      · exact hv.elim
    · rename_i n
      split at hv
      · rename_i as b S' hpop
        obtain ⟨h1, h2, h3, h5⟩ := hv
        obtain ⟨hS, hn⟩ := cp_pop0 hpop
        subst hS
        obtain ⟨j, rfl⟩ : ∃ j, b = 1000 + j := ⟨b - 1000, (Nat.add_sub_of_le h2).symm⟩
        rw [Nat.add_sub_cancel_left] at h3
        have hjj : cp_tx.length < 1000 := by decide
        match pos, c4 with
        | [p1, p2, p3], c4 =>
          simp only [cp_sp, Bool.and_eq_true, decide_eq_true_eq] at c4
          obtain ⟨⟨⟨e2, e3⟩, e4⟩, e5⟩ := c4
          have hx : RW g ex (dC + 1) mc ms y cells slots pc L (as.reverse ++ .ref (1000 + j) :: S') sh I J P Q := by
            intro p e s m args below meth c H locs ls A hC hR hA hS hL hx z1 z2
            exact r_callVS (mcC := 0) (msC := 0) h5 (Nat.le_refl _) (List.getElem?_eq_getElem h3) (Nat.lt_trans h3 hjj) (cp_at_ok e2) (cp_at_ok e3) (cp_at_ok e4) e5 hn h1 z1 z2 c1 (fun v sh1 I1 J1 P1 h => nx _ _ _ _ _ _ _ _ h) p e s m args below meth c H locs ls A hC hR hA hS hL hx z1 z2
          exact hx
        | [], c4 => simp [cp_sp] at c4
        | [_], c4 => simp [cp_sp] at c4
        | [_, _], c4 => simp [cp_sp] at c4
        | _ :: _ :: _ :: _ :: _, c4 => simp [cp_sp] at c4
      · exact hv.elim
    · exact hv.elim
  case invokestatic ix =>
    have hl : len = 3 := by simpa [cp_isTab, cp_len] using c2
    subst hl
    have nx : ∀ cells slots L S sh I J P, K rest cells slots L S sh I J P → RW g ex (dC + 1) mc ms y cells slots (pc + 3) L S sh I J P Q := fun cells slots L S sh I J P h => hK cells slots L S sh I J P _ (by simpa [cp_ends] using c3) h
    dsimp only [cp_vs] at hv
    split at hv
    · rename_i kd n mcC msC
      split at hv
      · rename_i as S' hpop
        obtain ⟨h1, h3, h4, h5⟩ := hv
        obtain ⟨hS, hn⟩ := cp_pop0 hpop
        subst hS
        match kd, pos, c4 with
        | 0, [p1, p2], c4 =>
          simp only [cp_sp, Bool.and_eq_true, decide_eq_true_eq] at c4
          obtain ⟨⟨e2, e3⟩, e5⟩ := c4
          exact r_callS h5 (Nat.le_refl _) (cp_at_ok e2) (cp_at_ok e3) e5 hn h1 h3 h4 c1 (fun v sh1 I1 J1 P1 h => nx _ _ _ _ _ _ _ _ h)
        | 1, [p1, p2], c4 =>
          simp only [cp_sp, Bool.and_eq_true, decide_eq_true_eq] at c4
          obtain ⟨⟨e2, e3⟩, e5⟩ := c4
          exact r_callSN h5 (Nat.le_refl _) (cp_an_ok e2) (cp_at_ok e3) e5 hn h1 h3 h4 c1 (fun v sh1 I1 J1 P1 h => nx _ _ _ _ _ _ _ _ h)
        | 0, [], c4 => simp [cp_sp] at c4
        | 0, [_], c4 => simp [cp_sp] at c4
        | 0, _ :: _ :: _ :: _, c4 => simp [cp_sp] at c4
        | 1, [], c4 => simp [cp_sp] at c4
        | 1, [_], c4 => simp [cp_sp] at c4
        | 1, _ :: _ :: _ :: _, c4 => simp [cp_sp] at c4
        | _ + 2, _, c4 => simp [cp_sp] at c4
      · exact hv.elim
    · split at hv
      · match pos, c4 with
        | [p1, p2, p3, p4], c4 =>
          simp only [cp_sp, Bool.and_eq_true] at c4
          obtain ⟨⟨⟨e2, e3⟩, e4⟩, e5⟩ := c4
          exact r_max (Nat.le_add_left 1 dC) hv.1 (cp_at_ok e2) (cp_at_ok e3) (cp_at_ok e4) (cp_at_ok e5) c1 (nx _ _ _ _ _ _ _ _ hv.2)
        | [], c4 => simp [cp_sp] at c4
        | [_], c4 => simp [cp_sp] at c4
        | [_, _], c4 => simp [cp_sp] at c4
        | [_, _, _], c4 => simp [cp_sp] at c4
        | _ :: _ :: _ :: _ :: _ :: _, c4 => simp [cp_sp] at c4
      · exact hv.elim
    · split at hv
      · match pos, c4 with
        | [p1, p2, p3, p4], c4 =>
          simp only [cp_sp, Bool.and_eq_true] at c4
          obtain ⟨⟨⟨e2, e3⟩, e4⟩, e5⟩ := c4
          exact r_min (Nat.le_add_left 1 dC) hv.1 (cp_at_ok e2) (cp_at_ok e3) (cp_at_ok e4) (cp_at_ok e5) c1 (nx _ _ _ _ _ _ _ _ hv.2)
        | [], c4 => simp [cp_sp] at c4
        | [_], c4 => simp [cp_sp] at c4
        | [_, _], c4 => simp [cp_sp] at c4
        | [_, _, _], c4 => simp [cp_sp] at c4
        | _ :: _ :: _ :: _ :: _ :: _, c4 => simp [cp_sp] at c4
      · exact hv.elim
    · exact hv.elim
  case invokespecial ix =>
    have hl : len = 3 := by simpa [cp_isTab, cp_len] using c2
    subst hl
    have nx : ∀ cells slots L S sh I J P, K rest cells slots L S sh I J P → RW g ex (dC + 1) mc ms y cells slots (pc + 3) L S sh I J P Q := fun cells slots L S sh I J P h => hK cells slots L S sh I J P _ (by simpa [cp_ends] using c3) h
    dsimp only [cp_vs] at hv
    split at hv
    · rename_i kd n mcC msC
      split at hv
      · rename_i as b S' hpop
        obtain ⟨h1, h3, h4, h5⟩ := hv
        obtain ⟨hS, hn⟩ := cp_pop0 hpop
        subst hS
        match kd, pos, c4 with
        | 0, [p1, p2], c4 =>
          simp only [cp_sp, Bool.and_eq_true, decide_eq_true_eq] at c4
          obtain ⟨⟨⟨⟨e2, e3⟩, e5⟩, e6⟩, e7⟩ := c4
          exact r_callI h5 (Nat.le_refl _) e6 e7 (cp_at_ok e2) (cp_at_ok e3) e5 hn h1 h3 h4 c1 (fun v sh1 I1 J1 P1 h => nx _ _ _ _ _ _ _ _ h)
        | 1, [p1, p2], c4 =>
          simp only [cp_sp, Bool.and_eq_true, decide_eq_true_eq] at c4
          obtain ⟨⟨⟨⟨e2, e3⟩, e5⟩, e6⟩, e7⟩ := c4
          exact r_callIN h5 (Nat.le_refl _) e6 e7 (cp_an_ok e2) (cp_at_ok e3) e5 hn h1 h3 h4 c1 (fun v sh1 I1 J1 P1 h => nx _ _ _ _ _ _ _ _ h)
        | 0, [], c4 => simp [cp_sp] at c4
        | 0, [_], c4 => simp [cp_sp] at c4
        | 0, _ :: _ :: _ :: _, c4 => simp [cp_sp] at c4
        | 1, [], c4 => simp [cp_sp] at c4
        | 1, [_], c4 => simp [cp_sp] at c4
        | 1, _ :: _ :: _ :: _, c4 => simp [cp_sp] at c4
        | _ + 2, _, c4 => simp [cp_sp] at c4
      · exact hv.elim
    · split at hv
      · match pos, c4 with
        | [p1, p2, p3], c4 =>
          simp only [cp_sp, Bool.and_eq_true] at c4
          obtain ⟨⟨e2, e3⟩, e4⟩ := c4
          exact r_objInit (Nat.le_add_left 1 dC) hv.1 (cp_at_ok e2) (cp_at_ok e3) (cp_at_ok e4) c1 (nx _ _ _ _ _ _ _ _ hv.2)
        | [], c4 => simp [cp_sp] at c4
        | [_], c4 => simp [cp_sp] at c4
        | [_, _], c4 => simp [cp_sp] at c4
        | _ :: _ :: _ :: _ :: _, c4 => simp [cp_sp] at c4
      · exact hv.elim
    · exact hv.elim
  case nop => exact hG _ _ _ _ _ _ _ _ _ hv
  all_goals exact hv.elim
theorem cp_vc_sound {bl : List (Nat × List cp_AI)} {stop : Nat → Bool} {Ps : cp_Z} (hb : cp_bl y bl = true)
    (hP : ∀ t cells slots L S sh I J P, stop t = true → Ps t cells slots L S sh I J P → RW g ex (dC + 1) mc ms y cells slots t L S sh I J P Q) :
    ∀ (n : Nat) (code : List cp_AI) (cells slots : Nat) (L : cp_Lo) (S : List Value) (sh : cp_H) (I : cp_I) (J : cp_J) (P : cp_P) (pc : Nat), cp_cks y code = true → cp_hd code = some pc → cp_vc g ex dC mc ms (cp_jl bl) stop Ps Q n code cells slots L S sh I J P → RW g ex (dC + 1) mc ms y cells slots pc L S sh I J P Q := by
  intro n
  induction n with
  | zero => intro code cells slots L S sh I J P pc _ _ h; exact h.elim
  | succ n ih =>
    intro code cells slots L S sh I J P pc hc hh h
    cases code with
    | nil => exact h.elim
    | cons x rest =>
      simp only [cp_cks, Bool.and_eq_true] at hc
      have hx : x.1 = pc := Option.some.inj hh
      rw [← hx]
      refine cp_vs_sound (K := cp_vc g ex dC mc ms (cp_jl bl) stop Ps Q n) (G := cp_jm (cp_jl bl) stop Ps (cp_vc g ex dC mc ms (cp_jl bl) stop Ps Q n)) (fun cells slots L S sh I J P pc h1 h2 => ih rest cells slots L S sh I J P pc hc.2 h1 h2) (fun t cells slots L S sh I J P h1 => ?_) hc.1 h
      unfold cp_jm at h1
      by_cases hs : stop t = true
      · rw [if_pos hs] at h1
        exact hP t cells slots L S sh I J P hs h1
      · rw [if_neg hs] at h1
        rcases cp_jl_ok bl hb t with q | ⟨q1, q2⟩
        · rw [q] at h1
          cases n <;> exact h1.elim
        · exact ih _ cells slots L S sh I J P t q2 q1 h1
/-- from a place of the code, by a run that stops at the places 'stop' -/
theorem cp_run {bl : List (Nat × List cp_AI)} (n : Nat) (stop : Nat → Bool) (hb : cp_bl y bl = true) {cells slots pc : Nat} {L : cp_Lo} {S : List Value} {sh : cp_H} {I : cp_I} {J : cp_J} {P : cp_P}
    (h : cp_vc g ex dC mc ms (cp_jl bl) stop (fun t cells slots L S sh I J P => RW g ex (dC + 1) mc ms y cells slots t L S sh I J P Q) Q n (cp_jl bl pc) cells slots L S sh I J P) : RW g ex (dC + 1) mc ms y cells slots pc L S sh I J P Q := by
  rcases cp_jl_ok bl hb pc with q | ⟨q1, q2⟩
  · rw [q] at h
    cases n <;> exact h.elim
  · exact cp_vc_sound hb (fun _ _ _ _ _ _ _ _ _ _ h => h) n _ cells slots L S sh I J P pc q2 q1 h
end CpSound
