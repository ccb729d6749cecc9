/-! THE ABSTRACT STATE: cells by numbers 0, 1, .. in the order of their making; shapes, ints, longs, references by cell and place. -/
abbrev cp_I : Type := Nat → Nat → Int32
abbrev cp_J : Type := Nat → Nat → Int64
abbrev cp_P : Type := Nat → Nat → Value
abbrev cp_H : Type := List (Nat × Nat)
abbrev cp_Lo : Type := Nat → Option Value
abbrev cp_QT : Type := Option Value → cp_H → cp_I → cp_J → cp_P → Prop
/-- ghosts: the launch, the classes, the array classes, the base, the script (cell, length, ints), the String constants and their bytes -/
abbrev cp_G : Type := Launch × va_G × (Nat → ClassId) × Nat × (Nat × Nat × (Nat → Int32)) × (Nat → Nat) × (Nat → Nat) × Option Nat
def cp_l (g : cp_G) : Launch := g.1
def cp_D (g : cp_G) : va_G := g.2.1
def cp_A (g : cp_G) : Nat → ClassId := g.2.2.1
def cp_z (g : cp_G) : Nat := g.2.2.2.1
def cp_sc (g : cp_G) : Nat × Nat × (Nat → Int32) := g.2.2.2.2.1
def cp_kK (g : cp_G) : Nat → Nat := g.2.2.2.2.2.1
def cp_kV (g : cp_G) : Nat → Nat := g.2.2.2.2.2.2.1
def cp_fm (g : cp_G) : Option Nat := g.2.2.2.2.2.2.2
def cp_a (g : cp_G) (k : Nat) : Nat := if k < 500 then cp_z g + k else if k = 999 then (cp_sc g).1 else if k < 2000 then cp_kK g (k - 1000) else cp_kV g (k - 2000)
def cp_v (g : cp_G) (v : Value) : Value := match v with
  | .ref k => .ref (cp_a g k)
  | .int x => .int x
  | .long x => .long x
  | .float x => .float x
  | .double x => .double x
  | .null => .null
  | .retAddr _ => va_rf (cp_fm g)
theorem cp_cat (g : cp_G) (v : Value) : (cp_v g v).category = v.category := by
  cases v <;> first | rfl | (show (va_rf (cp_fm g)).category = 1; cases cp_fm g <;> rfl)
def cp_fv (g : cp_G) (ty : FieldType) (i : Int32) (j : Int64) (p : Value) : Value := match ty with
  | .long => .long j
  | .object _ => cp_v g p
  | .array _ => cp_v g p
  | _ => .int i
def cp_fs (g : cp_G) (c n : Nat) (I1 : Nat → Int32) (J1 : Nat → Int64) (P1 : Nat → Value) : List Value := (List.range n).map (fun k => cp_fv g (cp_ty c k) (I1 k) (J1 k) (P1 k))
def cp_e (g : cp_G) (q : Nat × Nat) (I1 : Nat → Int32) (J1 : Nat → Int64) (P1 : Nat → Value) : va_E := match q.1 with
  | 0 => .inl (cp_A g 0, q.2, .inl I1)
  | 1 => .inl (cp_A g 1, q.2, .inl I1)
  | 2 => .inl (cp_A g 2, q.2, .inr (.inl J1))
  | c + 3 => .inr (c, cp_fs g c q.2 I1 J1 P1)
def cp_sh (sh : cp_H) (a : Nat) : Nat × Nat := sh.getD a (0, 0)
def cp_ws (g : cp_G) (sh : cp_H) (I : cp_I) (J : cp_J) (P : cp_P) : va_W := (List.range sh.length).map (fun a => (cp_z g + a, cp_e g (cp_sh sh a) (I a) (J a) (P a)))
def cp_u {α : Type} (f : Nat → Nat → α) (a k : Nat) (x : α) : Nat → Nat → α := fun b j => if b = a ∧ j = k then x else f b j
theorem cp_u_i (f : cp_I) (a k : Nat) (x : Int32) : cp_u f a k x a = upd (f a) k x := by funext j; simp [cp_u, upd]
theorem cp_u_l (f : cp_J) (a k : Nat) (x : Int64) : cp_u f a k x a = vp_updL (f a) k x := by funext j; simp [cp_u, vp_updL]
theorem cp_u_o {α : Type} (f : Nat → Nat → α) (a k : Nat) (x : α) {b : Nat} (h : b ≠ a) : cp_u f a k x b = f b := by funext j; simp [cp_u, h]
theorem cp_ws_len (g : cp_G) (sh : cp_H) (I : cp_I) (J : cp_J) (P : cp_P) : (cp_ws g sh I J P).length = sh.length := by simp [cp_ws]
theorem cp_ws_get (g : cp_G) (sh : cp_H) (I : cp_I) (J : cp_J) (P : cp_P) {a : Nat} (h : a < sh.length) : (cp_ws g sh I J P)[a]? = some (cp_z g + a, cp_e g (cp_sh sh a) (I a) (J a) (P a)) := by
  simp [cp_ws, List.getElem?_map, List.getElem?_range h]
theorem cp_ws_inv {g : cp_G} {sh : cp_H} {I : cp_I} {J : cp_J} {P : cp_P} {a : Nat} {q : Nat × va_E} (h : (cp_ws g sh I J P)[a]? = some q) : a < sh.length ∧ q.1 = cp_z g + a := by
  have hl : a < sh.length := by rw [← cp_ws_len g sh I J P]; exact (List.getElem?_eq_some_iff.mp h).1
  rw [cp_ws_get g sh I J P hl] at h
  cases h
  exact ⟨hl, rfl⟩
theorem cp_ws_set {g : cp_G} {sh : cp_H} {I I' : cp_I} {J J' : cp_J} {P P' : cp_P} {a : Nat} (ha : a < sh.length) {e : va_E} (he : e = cp_e g (cp_sh sh a) (I' a) (J' a) (P' a)) (hI : ∀ b, b ≠ a → I' b = I b) (hJ : ∀ b, b ≠ a → J' b = J b) (hP : ∀ b, b ≠ a → P' b = P b) :
    (cp_ws g sh I J P).set a (cp_z g + a, e) = cp_ws g sh I' J' P' := by
  apply List.ext_getElem?
  intro k
  by_cases hk : k = a
  · subst hk
    rw [List.getElem?_set_self (by rw [cp_ws_len]; exact ha), cp_ws_get _ _ _ _ _ ha, he]
  · rw [List.getElem?_set_ne (Ne.symm hk)]
    by_cases hl : k < sh.length
    · rw [cp_ws_get _ _ _ _ _ hl, cp_ws_get _ _ _ _ _ hl, hI k hk, hJ k hk, hP k hk]
    · rw [List.getElem?_eq_none (by rw [cp_ws_len]; omega), List.getElem?_eq_none (by rw [cp_ws_len]; omega)]
def cp_R (g : cp_G) (sh : cp_H) (I : cp_I) (J : cp_J) (P : cp_P) (H : Heap) : Prop := va_P (cp_D g) vwCl (cp_ws g sh I J P) H ∧ sh.length ≤ 500
def cp_Al (g : cp_G) (sh : cp_H) (A : Nat → Prop) : Prop := ∀ a, a < sh.length → A (cp_z g + a)
theorem cp_Dof {g : cp_G} {sh : cp_H} {I : cp_I} {J : cp_J} {P : cp_P} {A : Nat → Prop} (h : cp_Al g sh A) : va_D A (cp_ws g sh I J P) := by
  refine ⟨fun i j p q hi hj hpq => ?_, fun k q hk => ?_⟩
  · have h1 := (cp_ws_inv hi).2
    have h2 := (cp_ws_inv hj).2
    omega
  · obtain ⟨h1, h2⟩ := cp_ws_inv hk
    rw [h2]
    exact h k h1
theorem cp_R_lt {g : cp_G} {sh : cp_H} {I : cp_I} {J : cp_J} {P : cp_P} {H : Heap} (h : cp_R g sh I J P H) {a : Nat} (ha : a < sh.length) : cp_z g + a < H.size := (h.1 a _ (cp_ws_get g sh I J P ha)).lt
/-! METHODS: name, code, locals, what it returns -/
abbrev cp_M : Type := MethodName × ByteArray × Nat × Option FieldType
def cp_wsM (y : cp_M) : List Jvm.Cond := Jvm.Cond.code y.1 y.2.1 y.2.2.1 y.2.2.2 :: cp_WT
def cp_rm (d mc ms : Nat) : Room := { frames := d, cells := mc, slots := ms, locals := 40 * d }
def cp_ok (y : cp_M) : Prop := Jvm.Cond.code y.1 y.2.1 y.2.2.1 y.2.2.2 ∈ cp_WT ∧ Jvm.Cond.initialized y.1.cls ∈ cp_WT ∧ plainName y.1.cls = true ∧ (y.1.cls ≠ "java/lang/invoke/MethodHandle" ∧ y.1.cls ≠ "java/lang/invoke/VarHandle") ∧ y.2.2.1 ≤ 21
theorem cp_WT_good {w : Jvm.Cond} (h : w ∈ cp_WT) : (w.onTables && w.keeps) = true ∨ ∃ ty, w = .arrayClass ty := good_of_word (List.mem_filter.mp h).2
theorem cp_GI {k : cp_M} (hk : cp_ok k) : GoodIn cp_WT (cp_wsM k) := by
  intro w hw
  rcases List.mem_cons.mp hw with rfl | h
  · exact ⟨hk.1, cp_WT_good hk.1⟩
  · exact ⟨h, cp_WT_good h⟩
/-! WHAT A STATE KEEPS: classes, the script, links of nest mates, String constants -/
def cp_isN : Jvm.Cond → Bool
  | .methodLinkNest .. => true
  | _ => false
def cp_nest : List Jvm.Cond := tables_1.filter cp_isN
/-- of a String constant: its object, its coder, its bytes -/
def cp_St1 (g : cp_G) (tx : List Int32) (i : Nat) (A : Nat → Prop) (U : State) (H : Heap) : Prop := va_O "java/lang/String" (cp_kK g i) A U H ∧ va_OF "java/lang/String" "coder" "B" (.int 0) (cp_kK g i) A U H ∧ va_OF "java/lang/String" "value" "[B" (.ref (cp_kV g i)) (cp_kK g i) A U H ∧ va_T .byte (cp_kV g i) tx.length (fun j => .int (tx.getD j 0)) A U H
def cp_St (g : cp_G) (tx : List (List Int32)) (rf : List (String × Nat × String × Nat)) (A : Nat → Prop) (s : State) : Prop := (∀ i t, tx[i]? = some t → cp_St1 g t i A s s.heap) ∧ (∀ q ∈ rf, vk_R q.1 q.2.1 q.2.2.1 (cp_kK g q.2.2.2) s) ∧ va_Z "java/lang/String" "COMPACT_STRINGS" "Z" (.int 1) A s s.heap ∧ va_Z "jdk/internal/util/Preconditions" "SIOOBE_FORMATTER" "Ljava/util/function/BiFunction;" (va_rf (cp_fm g)) A s s.heap ∧ vx_Zq Bundle.tN "UNASSIGNED_STACK" Bundle.steD A s s.heap ∧ vx_Zq Bundle.tN "SUPPRESSED_SENTINEL" Bundle.listD A s s.heap
