section Start1
variable {s : State} {args : Array Value} {A : Nat → Prop}
/-! WHAT THE LAW FINDS AT ITS ENTRY -/
theorem s_arr {ty : FieldType} (h : (Jvm.Cond.arrayClass ty).before args s = true) : ∃ cA : ClassId, ArrOfT s cA ty ∧ s.vm.findClass ("[" ++ ty.toString) = some cA := by
  obtain ⟨cA, kA, comp, f1, f2, f3⟩ := Cond.arrayClass_spec h
  exact ⟨cA, fun N z => ⟨(fun k h => by cases h), kA, f2, comp, f3⟩, f1⟩
set_option maxRecDepth 20000 in
theorem s_kn (hts : ∀ w ∈ lw_tbl, w.before args s = true) : ∀ (k : Nat) (_ : k < 12), ∃ z : ClassId × (Nat → Nat), ∀ q : vw_C, vwCl[k]? = some q → u_Kn s q.1 q.2.1 q.2.2 z.1 z.2
  | 0, _ => by
    obtain ⟨c, i, h⟩ := u_known (C := RX0) (T := TX0) (N := 8) (n := 8) (fun w hw => hts w (List.mem_filter.mp hw).1) cp_in0 (hts (.instantiable RX0 8) (by decide +kernel))
    exact ⟨(c, i), fun q e => by cases e; exact h⟩
  | 1, _ => by
    obtain ⟨c, i, h⟩ := u_known (C := RX1) (T := TX1) (N := 0) (n := 0) (fun w hw => hts w (List.mem_filter.mp hw).1) cp_in1 (hts (.instantiable RX1 0) (by decide +kernel))
    exact ⟨(c, i), fun q e => by cases e; exact h⟩
  | 2, _ => by
    obtain ⟨c, i, h⟩ := u_known (C := RX2) (T := TX2) (N := 9) (n := 9) (fun w hw => hts w (List.mem_filter.mp hw).1) cp_in2 (hts (.instantiable RX2 9) (by decide +kernel))
    exact ⟨(c, i), fun q e => by cases e; exact h⟩
  | 3, _ => by
    obtain ⟨c, i, h⟩ := u_known (C := RX3) (T := TX3) (N := 2) (n := 2) (fun w hw => hts w (List.mem_filter.mp hw).1) cp_in3 (hts (.instantiable RX3 2) (by decide +kernel))
    exact ⟨(c, i), fun q e => by cases e; exact h⟩
  | 4, _ => by
    obtain ⟨c, i, h⟩ := u_known (C := RX4) (T := TX4) (N := 0) (n := 0) (fun w hw => hts w (List.mem_filter.mp hw).1) cp_in4 (hts (.instantiable RX4 0) (by decide +kernel))
    exact ⟨(c, i), fun q e => by cases e; exact h⟩
  | 5, _ => by
    obtain ⟨c, i, h⟩ := u_known (C := RX5) (T := TX5) (N := 1) (n := 1) (fun w hw => hts w (List.mem_filter.mp hw).1) cp_in5 (hts (.instantiable RX5 1) (by decide +kernel))
    exact ⟨(c, i), fun q e => by cases e; exact h⟩
  | 6, _ => by
    obtain ⟨c, i, h⟩ := u_known (C := RX6) (T := TX6) (N := 7) (n := 7) (fun w hw => hts w (List.mem_filter.mp hw).1) cp_in6 (hts (.instantiable RX6 7) (by decide +kernel))
    exact ⟨(c, i), fun q e => by cases e; exact h⟩
  | 7, _ => by
    obtain ⟨c, i, h⟩ := u_known (C := RX7) (T := TX7) (N := 5) (n := 5) (fun w hw => hts w (List.mem_filter.mp hw).1) cp_in7 (hts (.instantiable RX7 5) (by decide +kernel))
    exact ⟨(c, i), fun q e => by cases e; exact h⟩
  | 8, _ => by
    obtain ⟨c, i, h⟩ := u_known (C := RX8) (T := TX8) (N := 17) (n := 17) (fun w hw => hts w (List.mem_filter.mp hw).1) cp_in8 (hts (.instantiable RX8 17) (by decide +kernel))
    exact ⟨(c, i), fun q e => by cases e; exact h⟩
  | 9, _ => by
    obtain ⟨c, i, h⟩ := u_known (C := RX9) (T := TX9) (N := 1) (n := 1) (fun w hw => hts w (List.mem_filter.mp hw).1) cp_in9 (hts (.instantiable RX9 1) (by decide +kernel))
    exact ⟨(c, i), fun q e => by cases e; exact h⟩
  | 10, _ => by
    obtain ⟨c, i, h⟩ := u_known (C := RX10) (T := TX10) (N := 14) (n := 14) (fun w hw => hts w (List.mem_filter.mp hw).1) cp_in10 (hts (.instantiable RX10 14) (by decide +kernel))
    exact ⟨(c, i), fun q e => by cases e; exact h⟩
  | 11, _ => by
    obtain ⟨c, i, h⟩ := u_known (C := RX11) (T := TX11) (N := 41) (n := 41) (fun w hw => hts w (List.mem_filter.mp hw).1) cp_in11 (hts (.instantiable RX11 41) (by decide +kernel))
    exact ⟨(c, i), fun q e => by cases e; exact h⟩
  | k + 12, h => absurd h (by omega)
theorem s_D (hts : ∀ w ∈ lw_tbl, w.before args s = true) : ∃ D : va_G, ∀ (k : Nat) (q : vw_C), vwCl[k]? = some q → u_Kn s q.1 q.2.1 q.2.2 (D.1 k) (D.2 k) := by
  have h0 : ∀ k : Nat, ∃ z : ClassId × (Nat → Nat), ∀ q : vw_C, vwCl[k]? = some q → u_Kn s q.1 q.2.1 q.2.2 z.1 z.2 := by
    intro k
    by_cases hk : k < 12
    · exact s_kn hts k hk
    · refine ⟨(0, fun _ => 0), fun q e => ?_⟩
      have := (List.getElem?_eq_some_iff.mp e).1
      exact absurd this (by simpa [vwCl] using hk)
  obtain ⟨ad, had⟩ := Classical.axiomOfChoice h0
  exact ⟨(fun k => (ad k).1, fun k => (ad k).2), had⟩
/-- the words of a String constant -/
def st_t (q : String × Nat × String × Nat) : Term := .string q.1 q.2.1
def st_f (q : String × Nat × String × Nat) : Term := .field (st_t q) "java/lang/String" "value" "[B"
def st_w (q : String × Nat × String × Nat) (tx : List Int32) : List Jvm.Cond := Jvm.Cond.exactly (st_t q) "java/lang/String" :: Jvm.Cond.eq (.field (st_t q) "java/lang/String" "code\x72" "B") (.int 0) :: Jvm.Cond.arrayOf (st_f q) .byte :: Jvm.Cond.eq (.length (st_f q)) (.int (Int32.ofNat tx.length)) :: (List.range tx.length).map (fun j => Jvm.Cond.eq (.elem (st_f q) (.int (Int32.ofNat j))) (.int (tx.getD j 0)))
def st_d : String × Nat × String × Nat := ("", 0, "", 0)
theorem st_n : cp_rf.length = 36 ∧ cp_tx.length = 36 ∧ cp_rf.all (fun q => decide (q.2.2.2 < 36) && decide (cp_rf.getD q.2.2.2 st_d = q)) = true ∧ cp_tx.all (fun t => decide (t.length < 100)) = true := by decide +kernel
def st_no : Jvm.Cond → Bool
  | .eq (.string _ _) (.string _ _) => false
  | _ => true
def st_all : List Jvm.Cond := (List.range 36).flatMap (fun i => st_w (cp_rf.getD i st_d) (cp_tx.getD i []))
set_option maxRecDepth 100000 in
theorem st_eq : ((flatC (Jvm.Cond.and given_1 narrow_1)).drop 23).filter st_no = st_all := by decide +kernel
theorem st_in : ∀ i, i < 36 → ∀ w ∈ st_w (cp_rf.getD i st_d) (cp_tx.getD i []), w ∈ flatC (Jvm.Cond.and given_1 narrow_1) := by
  intro i hi w hw
  have h : w ∈ st_all := List.mem_flatMap.mpr ⟨i, List.mem_range.mpr hi, hw⟩
  rw [← st_eq] at h
  exact List.mem_of_mem_drop (List.mem_filter.mp h).1
set_option maxRecDepth 100000 in
theorem st_rf : ∀ q ∈ cp_rf, Jvm.Cond.stringRef q.1 q.2.1 q.2.2.1 ∈ lw_tbl := by decide +kernel
theorem s_str (hgv : (Jvm.Cond.and given_1 narrow_1).before args s = true) (hA : ∀ a : Nat, a < s.heap.size → ¬ A a) : ∃ kK kV : Nat → Nat, ∀ i, i < 36 → (st_t (cp_rf.getD i st_d)).eval args s none [] s = some (.ref (kK i)) ∧ va_O "java/lang/String" (kK i) A s s.heap ∧ va_OF "java/lang/String" "code\x72" "B" (.int 0) (kK i) A s s.heap ∧ va_OF "java/lang/String" "value" "[B" (.ref (kV i)) (kK i) A s s.heap ∧ va_T .byte (kV i) (cp_tx.getD i []).length (fun j => .int ((cp_tx.getD i []).getD j 0)) A s s.heap := by
  have hs := flat_of_before _ hgv
  have h0 : ∀ i : Nat, ∃ z : Nat × Nat, i < 36 → (st_t (cp_rf.getD i st_d)).eval args s none [] s = some (.ref z.1) ∧ va_O "java/lang/String" z.1 A s s.heap ∧ va_OF "java/lang/String" "code\x72" "B" (.int 0) z.1 A s s.heap ∧ va_OF "java/lang/String" "value" "[B" (.ref z.2) z.1 A s s.heap ∧ va_T .byte z.2 (cp_tx.getD i []).length (fun j => .int ((cp_tx.getD i []).getD j 0)) A s s.heap := by
    intro i
    by_cases hi : i < 36
    · have hw := fun w h => hs w (st_in i hi w h)
      have hlen : (cp_tx.getD i []).length < 2 ^ 31 := by
        by_cases hj : i < cp_tx.length
        · have q := List.all_eq_true.mp st_n.2.2.2 (cp_tx.getD i []) (by rw [List.getD_eq_getElem?_getD, List.getElem?_eq_getElem hj]; exact List.getElem_mem hj)
          rw [decide_eq_true_eq] at q
          omega
        · exact absurd (by rw [st_n.2.1]; exact hi) hj
      have w1 := hw _ (show _ ∈ st_w _ _ from List.mem_cons_self)
      have w2 := hw _ (show _ ∈ st_w _ _ from List.mem_cons_of_mem _ List.mem_cons_self)
      have w3 := hw _ (show _ ∈ st_w _ _ from List.mem_cons_of_mem _ (List.mem_cons_of_mem _ List.mem_cons_self))
      have w4 := hw _ (show _ ∈ st_w _ _ from List.mem_cons_of_mem _ (List.mem_cons_of_mem _ (List.mem_cons_of_mem _ List.mem_cons_self)))
      have w5 : ∀ j, j < (cp_tx.getD i []).length → (Jvm.Cond.eq (.elem (st_f (cp_rf.getD i st_d)) (.int (Int32.ofNat j))) (.int ((cp_tx.getD i []).getD j 0))).before args s = true := fun j hj =>
        hw _ (show _ ∈ st_w _ _ from List.mem_cons_of_mem _ (List.mem_cons_of_mem _ (List.mem_cons_of_mem _ (List.mem_cons_of_mem _ (List.mem_map.mpr ⟨j, List.mem_range.mpr hj, rfl⟩)))))
      obtain ⟨a, -, -, -, q1, -⟩ := Cond.exactly_spec w1
      obtain ⟨v, hv, hT⟩ := va_Tof (f := fun j => .int ((cp_tx.getD i []).getD j 0)) (A := A) hlen w3 (va_eqt w4) (fun j hj => va_eqt (w5 j hj)) hA
      exact ⟨(a, v), fun _ => ⟨q1, va_Oof w1 q1 hA, vk_OFof q1 (va_eqt w2) hA, vk_OFof q1 hv hA, hT⟩⟩
    · exact ⟨(0, 0), fun h => absurd h hi⟩
  obtain ⟨ad, had⟩ := Classical.axiomOfChoice h0
  exact ⟨fun i => (ad i).1, fun i => (ad i).2, had⟩
end Start1
