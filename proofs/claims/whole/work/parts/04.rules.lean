def cp_F (g : cp_G) (A : Nat → Prop) (s : State) : Prop := va_K (cp_D g) vwCl [(cp_A g 0, .int), (cp_A g 1, .byte), (cp_A g 2, .long)] s ∧ (va_X (cp_sc g).1 (cp_sc g).2.1 (cp_sc g).2.2 s s.heap ∧ (cp_sc g).1 < s.heap.size ∧ ¬ A (cp_sc g).1 ∧ cp_z g ≤ s.heap.size) ∧ (∀ w ∈ cp_nest, va_Nw w s) ∧ cp_St g cp_tx cp_rf A s
theorem cp_St1.go {g : cp_G} {tx : List Int32} {i : Nat} {A B : Nat → Prop} {u U : State} {H H1 : Heap} (h : cp_St1 g tx i A u H) (hvm : u.vm.Alike U.vm) (hq : ∀ a : Nat, a < H.size → ¬ A a → H1[a]? = H[a]?) (hAB : ∀ q, B q → A q) : cp_St1 g tx i B U H1 :=
  ⟨((h.1.kept hq).moved hvm).narrow hAB, ((h.2.1.kept hq).moved hvm).narrow hAB, ((h.2.2.1.kept hq).moved hvm).narrow hAB, ((h.2.2.2.kept hq).moved hvm).narrow hAB⟩
theorem cp_F.go {g : cp_G} {A B : Nat → Prop} {s U : State} {locs : List Loc} (h : cp_F g A s) (hvm : s.vm.Alike U.vm) (hS : va_S A s.heap U.heap locs) (hAB : ∀ q, B q → A q) (hn : ∀ w ∈ cp_nest, va_Nw w U) (hr : ∀ q ∈ cp_rf, vk_R q.1 q.2.1 q.2.2.1 (cp_kK g q.2.2.2) U) : cp_F g B U := by
  obtain ⟨hK, ⟨hX, hb, hbA, hzz⟩, -, hs1, -, hs3, hs4, hs5, hs6⟩ := h
  have hq : ∀ a : Nat, a < s.heap.size → ¬ A a → U.heap[a]? = s.heap[a]? := hS.2.1
  refine ⟨va_K.moved hvm hK, ⟨va_X.moved hvm (hX.kept (hq _ hb hbA)), Nat.lt_of_lt_of_le hb hS.1, fun q => hbA (hAB _ q), Nat.le_trans hzz hS.1⟩, hn, fun i t ht => (hs1 i t ht).go hvm hq hAB, hr, ((hs3.kept hq).moved hvm).narrow hAB, ((hs4.kept hq).moved hvm).narrow hAB, ((hs5.kept hq).moved hvm).narrow hAB, ((hs6.kept hq).moved hvm).narrow hAB⟩
theorem cp_nest_warm {s U : State} (hW : s.WarmedH U.vm) (h : ∀ w ∈ cp_nest, va_Nw w s) : ∀ w ∈ cp_nest, va_Nw w U := by
  intro w hw
  have h1 := h w hw
  have h2 : cp_isN w = true := (List.mem_filter.mp hw).2
  cases w <;> first | (simp [cp_isN] at h2; done) | exact va_Nw.warmM hW h1
theorem cp_nest_same {s U : State} (hv : s.vm = U.vm) (h : ∀ w ∈ cp_nest, va_Nw w s) : ∀ w ∈ cp_nest, va_Nw w U := by
  intro w hw
  have h1 := h w hw
  have h2 : cp_isN w = true := (List.mem_filter.mp hw).2
  cases w <;> first | (simp [cp_isN] at h2; done) | exact va_Nw.same rfl hv h1
theorem cp_F.warm {g : cp_G} {A B : Nat → Prop} {s U : State} {locs : List Loc} (h : cp_F g A s) (hW : s.WarmedH U.vm) (hS : va_S A s.heap U.heap locs) (hAB : ∀ q, B q → A q) : cp_F g B U :=
  h.go hW.alike hS hAB (cp_nest_warm hW h.2.2.1) (fun q hq => (h.2.2.2.2.1 q hq).warm hW)
theorem cp_F.same {g : cp_G} {A : Nat → Prop} {s U : State} (h : cp_F g A s) (hv : U.vm = s.vm) (hh : U.heap = s.heap) : cp_F g A U := by
  refine h.go (locs := []) (by rw [hv]; exact Vm.Alike.refl _) (by rw [hh]; exact va_S.rf) (fun _ q => q) (cp_nest_same hv.symm h.2.2.1) (fun q hq => (h.2.2.2.2.1 q hq).same hv)
/-! LOCALS -/
def cp_lv (g : cp_G) (nL : Nat) (L : cp_Lo) : List (Nat × Value) := (List.range nL).filterMap (fun k => (L k).map (fun v => (k, cp_v g v)))
theorem cp_lv_mem {g : cp_G} {nL : Nat} {L : cp_Lo} {q : Nat × Value} : q ∈ cp_lv g nL L ↔ q.1 < nL ∧ ∃ v, L q.1 = some v ∧ q.2 = cp_v g v := by
  unfold cp_lv
  rw [List.mem_filterMap]
  constructor
  · rintro ⟨k, hk, h⟩
    cases hL : L k with
    | none => rw [hL] at h; cases h
    | some v =>
      rw [hL] at h
      cases h
      exact ⟨List.mem_range.mp hk, v, hL, rfl⟩
  · rintro ⟨h1, v, h2, h3⟩
    refine ⟨q.1, List.mem_range.mpr h1, ?_⟩
    rw [h2]
    show some (q.1, cp_v g v) = some q
    rw [← h3]
def cp_L (g : cp_G) (ls : Array Slot) (nL : Nat) (L : cp_Lo) : Prop := lv_has ls nL (cp_lv g nL L)
theorem cp_L.get {g : cp_G} {ls : Array Slot} {nL : Nat} {L : cp_Lo} (h : cp_L g ls nL L) {k : Nat} {v : Value} (hk : k < nL) (hv : L k = some v) : ls[k]? = some (.val (cp_v g v)) := h.2.2 (k, cp_v g v) (cp_lv_mem.mpr ⟨hk, v, hv, rfl⟩)
def cp_nl (o : Option Value) : Option Value := match o with
  | some (.long _) => none
  | some (.double _) => none
  | o => o
theorem cp_nl_some {o : Option Value} {v : Value} (h : cp_nl o = some v) : o = some v ∧ v.category = 1 := by
  cases o with
  | none => cases h
  | some x => cases x <;> first | (cases h; done) | (cases h; exact ⟨rfl, rfl⟩)
/-- a value of one word is stored -/
def cp_s1 (L : cp_Lo) (i : Nat) (v : Value) : cp_Lo := fun k => if k = i then some v else if k + 1 = i then cp_nl (L k) else L k
/-- a value of two words is stored -/
def cp_s2 (L : cp_Lo) (i : Nat) (v : Value) : cp_Lo := fun k => if k = i then some v else if k = i + 1 then none else if k + 1 = i then cp_nl (L k) else L k
theorem cp_L.s1 {g : cp_G} {ls' : Array Slot} {nL i : Nat} {L : cp_Lo} {v : Value} (h : lv_has ls' nL ((i, cp_v g v) :: (cp_lv g nL L).filter (fun q => !(q.1 == i) && !(q.1 + 1 == i && q.2.category == 2)))) : cp_L g ls' nL (cp_s1 L i v) := by
  refine ⟨h.1, h.2.1, fun q hq => h.2.2 q ?_⟩
  obtain ⟨h1, w, h2, h3⟩ := cp_lv_mem.mp hq
  obtain ⟨k, x⟩ := q
  dsimp only at h1 h2 h3
  subst h3
  unfold cp_s1 at h2
  by_cases hk : k = i
  · rw [if_pos hk] at h2
    cases h2
    rw [hk]
    exact List.mem_cons_self
  · rw [if_neg hk] at h2
    refine List.mem_cons_of_mem _ (List.mem_filter.mpr ?_)
    by_cases hk1 : k + 1 = i
    · rw [if_pos hk1] at h2
      obtain ⟨h4, h5⟩ := cp_nl_some h2
      refine ⟨cp_lv_mem.mpr ⟨h1, w, h4, rfl⟩, ?_⟩
      simp [hk, hk1, cp_cat, h5]
    · rw [if_neg hk1] at h2
      refine ⟨cp_lv_mem.mpr ⟨h1, w, h2, rfl⟩, ?_⟩
      simp [hk, hk1]
theorem cp_L.s2 {g : cp_G} {ls' : Array Slot} {nL i : Nat} {L : cp_Lo} {v : Value} (h : lv_has ls' nL ((i, cp_v g v) :: (cp_lv g nL L).filter (fun q => !(q.1 == i) && (!(q.1 == i + 1) && !(q.1 + 1 == i && q.2.category == 2))))) : cp_L g ls' nL (cp_s2 L i v) := by
  refine ⟨h.1, h.2.1, fun q hq => h.2.2 q ?_⟩
  obtain ⟨h1, w, h2, h3⟩ := cp_lv_mem.mp hq
  obtain ⟨k, x⟩ := q
  dsimp only at h1 h2 h3
  subst h3
  unfold cp_s2 at h2
  by_cases hk : k = i
  · rw [if_pos hk] at h2
    cases h2
    rw [hk]
    exact List.mem_cons_self
  · rw [if_neg hk] at h2
    refine List.mem_cons_of_mem _ (List.mem_filter.mpr ?_)
    by_cases hk2 : k = i + 1
    · rw [if_pos hk2] at h2
      cases h2
    · rw [if_neg hk2] at h2
      by_cases hk1 : k + 1 = i
      · rw [if_pos hk1] at h2
        obtain ⟨h4, h5⟩ := cp_nl_some h2
        refine ⟨cp_lv_mem.mpr ⟨h1, w, h4, rfl⟩, ?_⟩
        simp [hk, hk1, hk2, cp_cat, h5]
      · rw [if_neg hk1] at h2
        refine ⟨cp_lv_mem.mpr ⟨h1, w, h2, rfl⟩, ?_⟩
        simp [hk, hk1, hk2]
/-- at a method's entry -/
def cp_ent (vs : List Value) : cp_Lo := fun k => ((lv_args 0 vs).find? (fun q => q.1 == k)).map (fun q => q.2)
theorem cp_args_map (g : cp_G) : ∀ (i : Nat) (vs : List Value), lv_args i (vs.map (cp_v g)) = (lv_args i vs).map (fun q => (q.1, cp_v g q.2))
  | _, [] => rfl
  | i, v :: vs => by
    show (i, cp_v g v) :: lv_args (if (cp_v g v).category = 2 then i + 2 else i + 1) (vs.map (cp_v g)) = _
    rw [cp_cat, cp_args_map g _ vs]
    rfl
theorem cp_L_ent {g : cp_G} {ls : Array Slot} {nL : Nat} {vs : List Value} (h : lv_has ls nL (lv_args 0 (vs.map (cp_v g)))) : cp_L g ls nL (cp_ent vs) := by
  refine ⟨h.1, h.2.1, fun q hq => h.2.2 q ?_⟩
  obtain ⟨h1, w, h2, h3⟩ := cp_lv_mem.mp hq
  rw [cp_args_map, List.mem_map]
  unfold cp_ent at h2
  cases hf : (lv_args 0 vs).find? (fun q' => q'.1 == q.1) with
  | none => rw [hf] at h2; cases h2
  | some x =>
    rw [hf] at h2
    cases h2
    refine ⟨x, List.mem_of_find?_eq_some hf, ?_⟩
    have h4 := List.find?_some hf
    rw [beq_iff_eq] at h4
    rw [h4, ← h3]
theorem cp_sl_len (g : cp_G) : ∀ vs : List Value, (lg_sl (vs.map (cp_v g))).length = (vs.map (fun v => v.category)).sum
  | [] => rfl
  | v :: vs => by
    have h := cp_sl_len g vs
    unfold lg_sl at h ⊢
    rw [List.map_cons, List.flatMap_cons, List.length_append, h, cp_cat, List.map_cons, List.sum_cons]
    congr 1
    rcases lv_cat v with q | q <;> simp [q]
/-! THE JUDGEMENTS -/
def cp_Q (g : cp_G) (ex : Bool) (mc : Nat) (A : Nat → Prop) (Q : cp_QT) : Array Value → State → Outcome → State → Prop := fun _ st oc t =>
  (∃ (v : Option Value) (sh : cp_H) (I : cp_I) (J : cp_J) (P : cp_P), oc = .returned (v.map (cp_v g)) ∧ Q v sh I J P ∧ cp_R g sh I J P t.heap ∧ cp_Al g sh A ∧ (ex = true → st.heap.size + mc = cp_z g + sh.length)) ∧ va_F A st t
/-- where a method has thrown -/
def cp_X (g : cp_G) (A : Nat → Prop) (Q : cp_QT) : String → State → State → Prop := fun E st t => E = "java/util/NoSuchElementException" ∧ (∃ (sh : cp_H) (I : cp_I) (J : cp_J) (P : cp_P), Q none sh I J P ∧ cp_R g sh I J P t.heap ∧ cp_Al g sh A) ∧ va_F A st t
/-- 0: it returns; 1: it may throw; 2: the law; 3: the method that catches -/
def cp_k (y : cp_M) : Nat := if y.1.name = "law" then 2 else if y.1.name = "led" then (if y.1.cls = "ColdPlunge" ∧ y.2.2.2.isSome = true then 1 else if y.1.cls = "ColdPlungeLaw" then 3 else 0) else 0
/-- the tables of exceptions -/
def cp_tb (y : cp_M) (c : Code) : Prop := (cp_k y = 1 → c.exceptionTable.toList = []) ∧ (cp_k y = 3 → c.exceptionTable.toList = tableOf [(0, 9, 12, 13)])
def cp_MQ (g : cp_G) (y : cp_M) (ex : Bool) (mc ms : Nat) (A : Nat → Prop) (Q : cp_QT) (below : List Frame) (args : Array Value) (s : State) : State → Prop :=
  if cp_k y = 0 then MQ below (cp_Q g ex mc A Q) args s mc ms A else if cp_k y = 1 then vx_MQ below (cp_Q g ex mc A (fun v sh I J P => v ≠ none ∧ Q v sh I J P)) (cp_X g A Q) args s mc ms A else MQ below (cp_Q g false mc A Q) args s mc ms A
def cp_C (g : cp_G) (y : cp_M) (p : Program) (s : State) (m : MethodId) (args : Array Value) (meth : Method) (c : Code) (A : Nat → Prop) : Prop :=
  p.tables.exec = Jvm.exec ∧ c.code = y.2.1 ∧ meth.sig.returnType = y.2.2.2 ∧ c.maxLocals = y.2.2.1 ∧ s.vm.findClass y.1.cls = some m.cls ∧ (∀ w ∈ cp_WT, w.before args s = true) ∧ meth.locks = false ∧ (∀ q, s.heap.size ≤ q → A q) ∧ cp_F g A s ∧ meth.name = y.1.name ∧ cp_tb y c
/-- a method of its room, at a place with locals, stack and cells: it returns, with Q -/
def RW (g : cp_G) (ex : Bool) (d mc ms : Nat) (y : cp_M) (cells slots pc : Nat) (L : cp_Lo) (S : List Value) (sh : cp_H) (I : cp_I) (J : cp_J) (P : cp_P) (Q : cp_QT) : Prop :=
  ∀ (p : Program) (e : Env) (s : State) (m : MethodId) (args : Array Value) (below : List Frame) (meth : Method) (c : Code) (H : Heap) (locs : List Loc) (ls : Array Slot) (A : Nat → Prop),
    cp_C g y p s m args meth c A → cp_R g sh I J P H → cp_Al g sh A → va_S A s.heap H locs → cp_L g ls y.2.2.1 L → (ex = true → s.heap.size + cells = cp_z g + sh.length) → cells ≤ mc → slots ≤ ms →
    W p (cp_l g) e (cp_rm d mc ms) s m args below meth c H locs cells slots (cp_MQ g y ex mc ms A Q below args s) (F0 m pc ls (S.map (cp_v g)))
/-- a method's contract -/
def MW (g : cp_G) (ex : Bool) (d mc ms : Nat) (y : cp_M) (as : List Value) (sh : cp_H) (I : cp_I) (J : cp_J) (P : cp_P) (Q : cp_QT) : Prop :=
  cp_ok y ∧ ∀ hs : Nat, Met (cp_l g) y.1 (cp_wsM y) (cp_rm d mc ms) (va_Pc (as.map (cp_v g)) (fun U => U.heap.size = hs ∧ cp_R g sh I J P U.heap ∧ cp_F g (va_A (cp_ws g sh I J P) hs) U ∧ (ex = true → hs = cp_z g + sh.length)))
    (cp_Q g ex mc (va_A (cp_ws g sh I J P) hs) Q) mc ms (va_A (cp_ws g sh I J P) hs)
theorem MW.of {g : cp_G} {ex : Bool} {d mc ms : Nat} {y : cp_M} {as : List Value} {sh : cp_H} {I : cp_I} {J : cp_J} {P : cp_P} {Q : cp_QT} (hok : cp_ok y) (hn : (as.map (fun v => v.category)).sum ≤ y.2.2.1) (h : RW g ex d mc ms y 0 0 0 (cp_ent as) [] sh I J P Q) (hk0 : cp_k y = 0 := by decide +kernel) : MW g ex d mc ms y as sh I J P Q := by
  refine ⟨hok, fun hs => Met.ofW (cc := y.2.1) (maxL := y.2.2.1) (ret := y.2.2.2) hok.2.2.1 rfl ?_⟩
  intro p e s m args below meth c s₁ B hml hv
  obtain ⟨rfl, hsz, hR, hF, hex⟩ := hv
  subst hsz
  have hts := fun (w : Jvm.Cond) (hw : w ∈ cp_WT) => atoms_spec (ws := cp_wsM y) B.pre w (List.mem_cons_of_mem _ hw)
  have hown : s.vm.findClass y.1.cls = some m.cls := findClass_of_methodNamed B.named
  have hl := lv_entry (as.map (cp_v g)) (n := y.2.2.1) (by rw [cp_sl_len]; exact hn)
  rw [lg_entry_eq]
  have hz := h p e s m _ below meth c s.heap [] _ (va_A (cp_ws g sh I J P) s.heap.size) ⟨B.exec, B.bytes, B.returns, hml, hown, hts, B.notSynchronized, fun q hq => Or.inr hq, hF, (name_of_methodNamed B.named B.method).1, ⟨fun q => absurd (hk0.symm.trans q) (by decide), fun q => absurd (hk0.symm.trans q) (by decide)⟩⟩ hR (fun a ha => Or.inl ⟨a, _, cp_ws_get g sh I J P ha⟩) va_S.rf (cp_L_ent hl) (fun q => hex q) (Nat.zero_le _) (Nat.zero_le _)
  unfold cp_MQ at hz
  rw [if_pos hk0] at hz
  exact hz
