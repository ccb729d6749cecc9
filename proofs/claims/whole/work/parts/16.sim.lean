/-! rows for the simplifier: locals, memory, stack -/
def cp_en : Nat → List Value → Nat → Option Value
  | _, [], _ => none
  | i, v :: vs, k => if k = i then some v else cp_en (if v.category = 2 then i + 2 else i + 1) vs k
theorem cp_en_eq : ∀ (vs : List Value) (i k : Nat), ((lv_args i vs).find? (fun q => q.1 == k)).map (fun q => q.2) = cp_en i vs k
  | [], _, _ => rfl
  | v :: vs, i, k => by
    unfold lv_args cp_en
    rw [List.find?_cons]
    by_cases h : k = i
    · subst h
      simp
    · have h2 : (i == k) = false := by rw [beq_eq_false_iff_ne]; exact fun q => h q.symm
      simp only [h2, h, if_false]
      exact cp_en_eq vs _ k
theorem cp_ent_en (vs : List Value) (k : Nat) : cp_ent vs k = cp_en 0 vs k := cp_en_eq vs 0 k
theorem cp_en_nil (i k : Nat) : cp_en i [] k = none := rfl
theorem cp_en_int (i k : Nat) (x : Int32) (vs : List Value) : cp_en i (.int x :: vs) k = if k = i then some (.int x) else cp_en (i + 1) vs k := rfl
theorem cp_en_ref (i k : Nat) (x : Nat) (vs : List Value) : cp_en i (.ref x :: vs) k = if k = i then some (.ref x) else cp_en (i + 1) vs k := rfl
theorem cp_en_ret (i k : Nat) (x : Nat) (vs : List Value) : cp_en i (.retAddr x :: vs) k = if k = i then some (.retAddr x) else cp_en (i + 1) vs k := rfl
theorem cp_en_long (i k : Nat) (x : Int64) (vs : List Value) : cp_en i (.long x :: vs) k = if k = i then some (.long x) else cp_en (i + 2) vs k := rfl
theorem cp_s1_at (L : cp_Lo) (i k : Nat) (v : Value) : cp_s1 L i v k = if k = i then some v else if k + 1 = i then cp_nl (L k) else L k := rfl
theorem cp_s2_at (L : cp_Lo) (i k : Nat) (v : Value) : cp_s2 L i v k = if k = i then some v else if k = i + 1 then none else if k + 1 = i then cp_nl (L k) else L k := rfl
theorem cp_nl_int (x : Int32) : cp_nl (some (.int x)) = some (.int x) := rfl
theorem cp_nl_ref (x : Nat) : cp_nl (some (.ref x)) = some (.ref x) := rfl
theorem cp_nl_long (x : Int64) : cp_nl (some (.long x)) = none := rfl
theorem cp_nl_none : cp_nl none = none := rfl
theorem cp_u_at {α : Type} (f : Nat → Nat → α) (a k b j : Nat) (x : α) : cp_u f a k x b j = if b = a ∧ j = k then x else f b j := rfl
theorem cp_pop_0 (acc S : List Value) : cp_pop 0 acc S = some (acc, S) := rfl
theorem cp_pop_s (n : Nat) (acc S : List Value) (v : Value) : cp_pop (n + 1) acc (v :: S) = cp_pop n (v :: acc) S := rfl
