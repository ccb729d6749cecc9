section Thr
/-! THE THROW OF 'led': new NoSuchElementException(text), its constructors up to Throwable, and athrow -/
abbrev nx_E : String := "java/util/NoSuchElementException"
abbrev nx_R : String := "java/lang/RuntimeException"
abbrev nx_X : String := "java/lang/Exception"
theorem nx_refl (vm : Vm) (c : ClassId) : vm.assignable c c = true := va_asg vm c
theorem nx_cast {args : Array Value} {s : State} {E : String} {c : ClassId} (h : s.vm.findClass E = some c) : (Jvm.Cond.castable E E).before args s = true := by
  simp [Jvm.Cond.before, Jvm.Cond.holds, Jvm.Cond.value, h, nx_refl]
/-- a method with code is declared as its descriptor says -/
theorem nx_decl {args : Array Value} {s : State} {y : MethodName} {b : ByteArray} {n : Nat} {r : Option FieldType} (hi : (Jvm.Cond.instanceMethod y).before args s = true) (hc : (Jvm.Cond.code y b n r).before args s = true) : (Jvm.Cond.declares y).before args s = true := by
  obtain ⟨m, meth, h1, h2, h3, -⟩ := Cond.instanceMethod_spec hi
  obtain ⟨meth', c, h4, -, -, -, -, -, -, h5⟩ := Cond.code_spec h1 hc
  cases Option.some.inj (h2.symm.trans h4)
  simp [Jvm.Cond.before, Jvm.Cond.holds, Jvm.Cond.value, h1, h2, h3, h5]
def nx_own : List Jvm.Cond := [.methodLink "ColdPlunge" 353 (Bundle.initS nx_E), .instantiable nx_E 6, .selects nx_E Bundle.tFill0 Bundle.tFill0, .selects nx_E Bundle.tFill Bundle.tFill,
  .lays nx_E Bundle.tN "cause" "Ljava/lang/Throwable;", .lays nx_E Bundle.tN "stackTrace" Bundle.steD, .lays nx_E Bundle.tN "suppressedExceptions" Bundle.listD, .lays nx_E Bundle.tN "detailMessage" "Ljava/lang/String;", .lays nx_E Bundle.tN "backtrace" "Ljava/lang/Object;",
  .lays Bundle.tN Bundle.tN "backtrace" "Ljava/lang/Object;", .fieldLink Bundle.tN 198 Bundle.tN "backtrace" "Ljava/lang/Object;"]
def nx_al : List Jvm.Cond := nx_own ++ (Bundle.passSAtoms nx_E nx_R 13 prog_27_method_4_code ++ (Bundle.chainSAtoms nx_R [nx_X] ++ (Bundle.throwableSAtoms ++ Bundle.throwableAtoms)))
def nx_bad : List Jvm.Cond := [.laysStatic Bundle.tN "UNASSIGNED_STACK" Bundle.steD, .laysStatic Bundle.tN "SUPPRESSED_SENTINEL" Bundle.listD, .declares (Bundle.initS nx_R), .declares (Bundle.initS nx_X), .declares (Bundle.initS Bundle.tN)]
set_option maxRecDepth 100000 in
theorem nx_good : ∀ w ∈ nx_al.filter goodWord, w ∈ lw_tbl := by decide +kernel
theorem nx_rest : ∀ w ∈ nx_al.filter (fun w => !goodWord w), w ∈ nx_bad := by decide +kernel
theorem nx_wt {w : Jvm.Cond} (h : w ∈ nx_al) (hg : goodWord w = true) : w ∈ cp_WT := List.mem_filter.mpr ⟨nx_good w (List.mem_filter.mpr ⟨h, hg⟩), hg⟩
theorem nx_all {args : Array Value} {s : State} {A : Nat → Prop} (hts : ∀ w ∈ cp_WT, w.before args s = true) (hU : vx_Zq Bundle.tN "UNASSIGNED_STACK" Bundle.steD A s s.heap) (hN : vx_Zq Bundle.tN "SUPPRESSED_SENTINEL" Bundle.listD A s s.heap) : ∀ w ∈ nx_al, w.before args s = true := by
  have k1 : ∀ w ∈ nx_al, goodWord w = true → w.before args s = true := fun w h hg => hts w (nx_wt h hg)
  intro w hw
  by_cases hg : goodWord w = true
  · exact k1 w hw hg
  · have hb : w ∈ nx_bad := nx_rest w (List.mem_filter.mpr ⟨hw, by simpa using hg⟩)
    simp only [nx_bad, List.mem_cons, List.not_mem_nil, or_false] at hb
    rcases hb with rfl | rfl | rfl | rfl | rfl
    · exact hU.2.word
    · exact hN.2.word
    · exact nx_decl (b := Bundle.six) (n := 2) (r := none) (k1 _ (by simp [nx_al, Bundle.chainSAtoms, Bundle.passSAtoms]) rfl) (k1 _ (by simp [nx_al, Bundle.chainSAtoms, Bundle.passSAtoms]) rfl)
    · exact nx_decl (b := Bundle.six) (n := 2) (r := none) (k1 _ (by simp [nx_al, Bundle.chainSAtoms, Bundle.passSAtoms]) rfl) (k1 _ (by simp [nx_al, Bundle.chainSAtoms, Bundle.passSAtoms]) rfl)
    · exact nx_decl (b := LibCode.Throwable.InitS.code) (n := 2) (r := none) (k1 _ (by simp [nx_al, Bundle.throwableSAtoms]) rfl) (k1 _ (by simp [nx_al, Bundle.throwableSAtoms]) rfl)
/-- which method the receiver's class selects -/
theorem nx_sel {l : Launch} {p : Program} {e : Env} {R : Room} {s T : State} {m : MethodId} {args : Array Value} {below : List Frame} {meth : Method} {c : Code} {locs : List Loc} {cells slots : Nat} (X : Stand p l e R s m args below meth c T locs cells slots) {C : String} {y : MethodName} {cC : ClassId} {mk : MethodId}
    (h : (Jvm.Cond.selects C y y).before args s = true) (hc : s.vm.findClass C = some cC) (hm : s.methodNamed? y = some mk) (hy : y.cls ≠ "java/lang/invoke/MethodHandle" ∧ y.cls ≠ "java/lang/invoke/VarHandle") : selectMethod e.platform s.vm cC mk = .method mk := by
  obtain ⟨c2, r2, m2, q1, q2, q3, q4, -⟩ := Cond.selects_spec h
  cases Option.some.inj (q1.symm.trans hc)
  cases Option.some.inj (q2.symm.trans (State.methodFound?_of_named hm hy))
  cases Option.some.inj (q3.symm.trans hm)
  rw [Launch.admits_selectMethod X.admits]
  exact q4
theorem nx_d0 : decode prog_27_method_4_code 0 = .ok (.aload_n 0, 1) := by decide +kernel
theorem nx_d1 : decode prog_27_method_4_code 1 = .ok (.aload_n 1, 1) := by decide +kernel
theorem nx_d2 : decode prog_27_method_4_code 2 = .ok (.invokespecial 13, 3) := by decide +kernel
theorem nx_d5 : decode prog_27_method_4_code 5 = .ok (.return_, 1) := by decide +kernel
theorem nx_e15 : decode m_CP_led.2.1 15 = .ok (.new 349, 3) := by decide +kernel
theorem nx_e18 : decode m_CP_led.2.1 18 = .ok (.dup, 1) := by decide +kernel
theorem nx_e19 : decode m_CP_led.2.1 19 = .ok (.ldc_w 351, 3) := by decide +kernel
theorem nx_e22 : decode m_CP_led.2.1 22 = .ok (.invokespecial 353, 3) := by decide +kernel
theorem nx_e25 : decode m_CP_led.2.1 25 = .ok (.athrow, 1) := by decide +kernel
/-- the statics of Throwable: their cell is none of those that may change -/
theorem nx_stat {C n dd : String} {A : Nat → Prop} {s : State} {c i a : Nat} {k : Class} {f : Field} (h : vx_L C n dd A s s.heap) (hf : s.fieldFound? C n dd = some (c, k, i, f)) (hk : k.statics = some a) : ∃ cell, s.heap[a]? = some cell ∧ cell.vm.isStatics = true ∧ ¬ A a := by
  obtain ⟨c1, k1, i1, f1, a1, cell, -, h2, -, h4, h5, h6, -, -, -, h10⟩ := h
  have e := Option.some.inj (h2.symm.trans hf)
  simp only [Prod.mk.injEq] at e
  obtain ⟨-, rfl, -, -⟩ := e
  cases Option.some.inj (h4.symm.trans hk)
  exact ⟨cell, h5, h6, h10⟩
end Thr
