section Led1
variable {g : cp_G} {ex : Bool} {d dC mc ms cells slots : Nat} {y : cp_M} {as : List Value} {sh : cp_H} {I : cp_I} {J : cp_J} {P : cp_P} {Q Q1 : cp_QT} {L : cp_Lo}
/-! A METHOD THAT THROWS, AND ONE THAT CATCHES -/
/-- a method that may throw, where it doesn't -/
theorem MW.of1 (hok : cp_ok y) (hk1 : cp_k y = 1) (hn : (as.map (fun v => v.category)).sum ≤ y.2.2.1) (h : RW g ex d mc ms y 0 0 0 (cp_ent as) [] sh I J P (fun v sh I J P => v ≠ none ∧ Q v sh I J P)) : MW g ex d mc ms y as sh I J P Q := by
  refine ⟨hok, fun hs => Met.ofW (cc := y.2.1) (maxL := y.2.2.1) (ret := y.2.2.2) hok.2.2.1 rfl ?_⟩
  intro p e s m args below meth c s₁ B hml hv
  obtain ⟨rfl, hsz, hR, hF, hex⟩ := hv
  subst hsz
  have htb : c.exceptionTable.toList = [] := by
    obtain ⟨meth9, c9, h1, h2, -, -, -, -, h7, -⟩ := Cond.code_spec B.named (atoms_spec (ws := cp_wsM y) B.pre _ List.mem_cons_self)
    cases Option.some.inj (h1.symm.trans B.method)
    cases Option.some.inj (h2.symm.trans (Stand.of_body B).code)
    rw [Array.isEmpty_iff.mp h7]
  have hts := fun (w : Jvm.Cond) (hw : w ∈ cp_WT) => atoms_spec (ws := cp_wsM y) B.pre w (List.mem_cons_of_mem _ hw)
  have hown : s.vm.findClass y.1.cls = some m.cls := findClass_of_methodNamed B.named
  have hl := lv_entry (as.map (cp_v g)) (n := y.2.2.1) (by rw [cp_sl_len]; exact hn)
  rw [lg_entry_eq]
  have hz := h p e s m _ below meth c s.heap [] _ (va_A (cp_ws g sh I J P) s.heap.size) ⟨B.exec, B.bytes, B.returns, hml, hown, hts, B.notSynchronized, fun q hq => Or.inr hq, hF, (name_of_methodNamed B.named B.method).1, ⟨fun _ => htb, fun q => absurd (hk1.symm.trans q) (by decide)⟩⟩ hR (fun a ha => Or.inl ⟨a, _, cp_ws_get g sh I J P ha⟩) va_S.rf (cp_L_ent hl) (fun q => hex q) (Nat.zero_le _) (Nat.zero_le _)
  unfold cp_MQ at hz
  rw [if_neg (by rw [hk1]; decide), if_pos hk1] at hz
  intro T hT X
  obtain ⟨t, a1, o, b1, b2, b3⟩ := hz T hT X
  rcases b3 with ⟨b3, b4⟩ | ⟨q, -, E, ce, L, ⟨-, ⟨sh', I', J', P', ⟨hn0, -⟩, -⟩, -⟩, -⟩
  · exact ⟨t, a1, o, b1, b2, cp_Qf b3 (fun _ _ _ _ _ z => z.2.2) id, b4⟩
  · exact absurd rfl hn0
/-- the contract of a method that may throw -/
def MX (g : cp_G) (d mc ms : Nat) (y : cp_M) (as : List Value) (sh : cp_H) (I : cp_I) (J : cp_J) (P : cp_P) (Q : cp_QT) : Prop :=
  cp_ok y ∧ ∀ hs : Nat, vx_Met (cp_l g) y.1 (cp_wsM y) (cp_rm d mc ms) (va_Pc (as.map (cp_v g)) (fun U => U.heap.size = hs ∧ cp_R g sh I J P U.heap ∧ cp_F g (va_A (cp_ws g sh I J P) hs) U ∧ (false = true → hs = cp_z g + sh.length)))
    (cp_Q g false mc (va_A (cp_ws g sh I J P) hs) (fun v sh I J P => v ≠ none ∧ Q v sh I J P)) (cp_X g (va_A (cp_ws g sh I J P) hs) Q) mc ms (va_A (cp_ws g sh I J P) hs)
theorem MX.of (hok : cp_ok y) (hk1 : cp_k y = 1) (hn : (as.map (fun v => v.category)).sum ≤ y.2.2.1) (h : RW g false d mc ms y 0 0 0 (cp_ent as) [] sh I J P Q) : MX g d mc ms y as sh I J P Q := by
  refine ⟨hok, fun hs => vx_ofW (cc := y.2.1) (maxL := y.2.2.1) (ret := y.2.2.2) hok.2.2.1 rfl ?_⟩
  intro p e s m args below meth c s₁ B hml htb hv
  obtain ⟨rfl, hsz, hR, hF, hex⟩ := hv
  subst hsz
  have hts := fun (w : Jvm.Cond) (hw : w ∈ cp_WT) => atoms_spec (ws := cp_wsM y) B.pre w (List.mem_cons_of_mem _ hw)
  have hown : s.vm.findClass y.1.cls = some m.cls := findClass_of_methodNamed B.named
  have hl := lv_entry (as.map (cp_v g)) (n := y.2.2.1) (by rw [cp_sl_len]; exact hn)
  rw [lg_entry_eq]
  have hz := h p e s m _ below meth c s.heap [] _ (va_A (cp_ws g sh I J P) s.heap.size) ⟨B.exec, B.bytes, B.returns, hml, hown, hts, B.notSynchronized, fun q hq => Or.inr hq, hF, (name_of_methodNamed B.named B.method).1, ⟨fun _ => List.eq_nil_iff_forall_not_mem.mpr (fun x hx => htb x hx), fun q => absurd (hk1.symm.trans q) (by decide)⟩⟩ hR (fun a ha => Or.inl ⟨a, _, cp_ws_get g sh I J P ha⟩) va_S.rf (cp_L_ent hl) (fun q => hex q) (Nat.zero_le _) (Nat.zero_le _)
  unfold cp_MQ at hz
  rw [if_neg (by rw [hk1]; decide), if_pos hk1] at hz
  exact hz
theorem cp_R_kept {H H1 : Heap} (h : cp_R g sh I J P H) (hq : ∀ q : Nat, q < H.size → H1[q]? = H[q]?) : cp_R g sh I J P H1 := by
  refine ⟨h.1.kept fun k q hk => ?_, h.2⟩
  exact hq _ (h.1 k q hk).lt
theorem thr_k : Jvm.Cond.classLink "ColdPlunge" 349 "java/util/NoSuchElementException" ∈ cp_WT := List.mem_filter.mpr ⟨by decide +kernel, by decide +kernel⟩
theorem thr_i : Jvm.Cond.initialized "java/util/NoSuchElementException" ∈ cp_WT := List.mem_filter.mpr ⟨by decide +kernel, by decide +kernel⟩
theorem thr_s : (("ColdPlunge", 351, "no such bather who is in and doesn't bear it", 20) : String × Nat × String × Nat) ∈ cp_rf := by decide +kernel
end Led1
