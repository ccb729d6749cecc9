section CpSteps
variable {g : cp_G} {ex : Bool} {d mc ms : Nat} {y : cp_M} {cells slots pc : Nat} {L : cp_Lo} {S : List Value} {sh : cp_H} {I : cp_I} {J : cp_J} {P : cp_P} {Q : cp_QT}
/-- a step that changes place and stack alone -/
theorem r_pure {pc' : Nat} {S' : List Value} (hk : RW g ex d mc ms y cells slots pc' L S' sh I J P Q)
    (h : ∀ (p : Program) (e : Env) (s : State) (m : MethodId) (args : Array Value) (below : List Frame) (meth : Method) (c : Code) (H : Heap) (locs : List Loc) (ls : Array Slot) (A : Nat → Prop) (QQ : State → Prop), cp_C g y p s m args meth c A → cp_L g ls y.2.2.1 L → cells ≤ mc → slots ≤ ms →
      W p (cp_l g) e (cp_rm d mc ms) s m args below meth c H locs cells slots QQ (F0 m pc' ls (S'.map (cp_v g))) → W p (cp_l g) e (cp_rm d mc ms) s m args below meth c H locs cells slots QQ (F0 m pc ls (S.map (cp_v g)))) : RW g ex d mc ms y cells slots pc L S sh I J P Q := by
  intro p e s m args below meth c H locs ls A hC hR hA hS hL hx h1 h2
  exact h p e s m args below meth c H locs ls A _ hC hL h1 h2 (hk p e s m args below meth c H locs ls A hC hR hA hS hL hx h1 h2)
/-- a step that goes one of two ways -/
theorem r_br {pt pf : Nat} {S' : List Value} {b : Prop} (ht : b → RW g ex d mc ms y cells slots pt L S' sh I J P Q) (hf : ¬ b → RW g ex d mc ms y cells slots pf L S' sh I J P Q)
    (h : ∀ (p : Program) (e : Env) (s : State) (m : MethodId) (args : Array Value) (below : List Frame) (meth : Method) (c : Code) (H : Heap) (locs : List Loc) (ls : Array Slot) (A : Nat → Prop) (QQ : State → Prop), cp_C g y p s m args meth c A →
      (b → W p (cp_l g) e (cp_rm d mc ms) s m args below meth c H locs cells slots QQ (F0 m pt ls (S'.map (cp_v g)))) → (¬ b → W p (cp_l g) e (cp_rm d mc ms) s m args below meth c H locs cells slots QQ (F0 m pf ls (S'.map (cp_v g)))) → W p (cp_l g) e (cp_rm d mc ms) s m args below meth c H locs cells slots QQ (F0 m pc ls (S.map (cp_v g)))) : RW g ex d mc ms y cells slots pc L S sh I J P Q := by
  intro p e s m args below meth c H locs ls A hC hR hA hS hL hx h1 h2
  exact h p e s m args below meth c H locs ls A _ hC (fun q => ht q p e s m args below meth c H locs ls A hC hR hA hS hL hx h1 h2) (fun q => hf q p e s m args below meth c H locs ls A hC hR hA hS hL hx h1 h2)
/-- a step that stores a local of one word -/
theorem r_st1 {pc' i : Nat} {S' : List Value} {v : Value} (hk : RW g ex d mc ms y cells slots pc' (cp_s1 L i v) S' sh I J P Q)
    (h : ∀ (p : Program) (e : Env) (s : State) (m : MethodId) (args : Array Value) (below : List Frame) (meth : Method) (c : Code) (H : Heap) (locs : List Loc) (ls : Array Slot) (A : Nat → Prop) (QQ : State → Prop), cp_C g y p s m args meth c A → lv_has ls y.2.2.1 (cp_lv g y.2.2.1 L) →
      (∀ ls', lv_has ls' y.2.2.1 ((i, cp_v g v) :: (cp_lv g y.2.2.1 L).filter (fun q => !(q.1 == i) && !(q.1 + 1 == i && q.2.category == 2))) → W p (cp_l g) e (cp_rm d mc ms) s m args below meth c H locs cells slots QQ (F0 m pc' ls' (S'.map (cp_v g)))) → W p (cp_l g) e (cp_rm d mc ms) s m args below meth c H locs cells slots QQ (F0 m pc ls (S.map (cp_v g)))) : RW g ex d mc ms y cells slots pc L S sh I J P Q := by
  intro p e s m args below meth c H locs ls A hC hR hA hS hL hx h1 h2
  exact h p e s m args below meth c H locs ls A _ hC hL (fun ls' hl => hk p e s m args below meth c H locs ls' A hC hR hA hS (cp_L.s1 hl) hx h1 h2)
theorem r_st2 {pc' i : Nat} {S' : List Value} {v : Value} (hk : RW g ex d mc ms y cells slots pc' (cp_s2 L i v) S' sh I J P Q)
    (h : ∀ (p : Program) (e : Env) (s : State) (m : MethodId) (args : Array Value) (below : List Frame) (meth : Method) (c : Code) (H : Heap) (locs : List Loc) (ls : Array Slot) (A : Nat → Prop) (QQ : State → Prop), cp_C g y p s m args meth c A → lv_has ls y.2.2.1 (cp_lv g y.2.2.1 L) →
      (∀ ls', lv_has ls' y.2.2.1 ((i, cp_v g v) :: (cp_lv g y.2.2.1 L).filter (fun q => !(q.1 == i) && (!(q.1 == i + 1) && !(q.1 + 1 == i && q.2.category == 2)))) → W p (cp_l g) e (cp_rm d mc ms) s m args below meth c H locs cells slots QQ (F0 m pc' ls' (S'.map (cp_v g)))) → W p (cp_l g) e (cp_rm d mc ms) s m args below meth c H locs cells slots QQ (F0 m pc ls (S.map (cp_v g)))) : RW g ex d mc ms y cells slots pc L S sh I J P Q := by
  intro p e s m args below meth c H locs ls A hC hR hA hS hL hx h1 h2
  exact h p e s m args below meth c H locs ls A _ hC hL (fun ls' hl => hk p e s m args below meth c H locs ls' A hC hR hA hS (cp_L.s2 hl) hx h1 h2)
theorem cp_wd {p : Program} {s : State} {m : MethodId} {args : Array Value} {meth : Method} {c : Code} {A : Nat → Prop} (hC : cp_C g y p s m args meth c A) {w : Jvm.Cond} (hw : w ∈ cp_WT) : w.before args s = true := hC.2.2.2.2.2.1 w hw
/-- numbers pushed -/
theorem r_push {pc' : Nat} {v : Value} (hk : RW g ex d mc ms y cells slots pc' L (v :: S) sh I J P Q)
    (h : ∀ (p : Program) (e : Env) (s : State) (m : MethodId) (args : Array Value) (below : List Frame) (meth : Method) (c : Code) (H : Heap) (locs : List Loc) (ls : Array Slot) (A : Nat → Prop) (QQ : State → Prop) (rest : List Value), cp_C g y p s m args meth c A → cp_L g ls y.2.2.1 L →
      W p (cp_l g) e (cp_rm d mc ms) s m args below meth c H locs cells slots QQ (F0 m pc' ls (cp_v g v :: rest)) → W p (cp_l g) e (cp_rm d mc ms) s m args below meth c H locs cells slots QQ (F0 m pc ls rest)) : RW g ex d mc ms y cells slots pc L S sh I J P Q :=
  r_pure hk (fun p e s m args below meth c H locs ls A QQ hC hL _ _ k => h p e s m args below meth c H locs ls A QQ _ hC hL k)
theorem r_iconst {n : Int} {v : Int32} (hd : decode y.2.1 pc = .ok (.iconst n, 1)) (hv : Int32.ofInt n = v) (hk : RW g ex d mc ms y cells slots (pc + 1) L (.int v :: S) sh I J P Q) : RW g ex d mc ms y cells slots pc L S sh I J P Q :=
  r_push hk (fun p e s m args below meth c H locs ls A QQ rest hC hL k => lv_iconst hC.1 hC.2.1 hd hv k)
theorem r_bipush {n : Int} {v : Int32} (hd : decode y.2.1 pc = .ok (.bipush n, 2)) (hv : (Int8.ofInt n).toInt32 = v) (hk : RW g ex d mc ms y cells slots (pc + 2) L (.int v :: S) sh I J P Q) : RW g ex d mc ms y cells slots pc L S sh I J P Q :=
  r_push hk (fun p e s m args below meth c H locs ls A QQ rest hC hL k => lv_bipush hC.1 hC.2.1 hd hv k)
theorem r_sipush {n : Int} {v : Int32} (hd : decode y.2.1 pc = .ok (.sipush n, 3)) (hv : (Int16.ofInt n).toInt32 = v) (hk : RW g ex d mc ms y cells slots (pc + 3) L (.int v :: S) sh I J P Q) : RW g ex d mc ms y cells slots pc L S sh I J P Q :=
  r_push hk (fun p e s m args below meth c H locs ls A QQ rest hC hL k => lv_sipush hC.1 hC.2.1 hd hv k)
theorem r_lconst {n : Fin 2} {v : Int64} (hd : decode y.2.1 pc = .ok (.lconst n, 1)) (hv : Int64.ofNat (n : Nat) = v) (hk : RW g ex d mc ms y cells slots (pc + 1) L (.long v :: S) sh I J P Q) : RW g ex d mc ms y cells slots pc L S sh I J P Q :=
  r_push hk (fun p e s m args below meth c H locs ls A QQ rest hC hL k => lv_lconst hC.1 hC.2.1 hd hv k)
theorem r_ldc {ix : Nat} {v : Int32} (hw : Jvm.Cond.constant y.1.cls ix v ∈ cp_WT) (hd : decode y.2.1 pc = .ok (.ldc ix, 2)) (hk : RW g ex d mc ms y cells slots (pc + 2) L (.int v :: S) sh I J P Q) : RW g ex d mc ms y cells slots pc L S sh I J P Q :=
  r_push hk (fun p e s m args below meth c H locs ls A QQ rest hC hL k => lv_ldc hC.1 hC.2.1 hC.2.2.2.2.1 (cp_wd hC hw) hd k)
theorem r_ldcw {ix : Nat} {v : Int32} (hw : Jvm.Cond.constant y.1.cls ix v ∈ cp_WT) (hd : decode y.2.1 pc = .ok (.ldc_w ix, 3)) (hk : RW g ex d mc ms y cells slots (pc + 3) L (.int v :: S) sh I J P Q) : RW g ex d mc ms y cells slots pc L S sh I J P Q :=
  r_push hk (fun p e s m args below meth c H locs ls A QQ rest hC hL k => lv_ldcw hC.1 hC.2.1 hC.2.2.2.2.1 (cp_wd hC hw) hd k)
theorem r_ldc2 {ix : Nat} {v : Int64} (hw : Jvm.Cond.constantLong y.1.cls ix v ∈ cp_WT) (hd : decode y.2.1 pc = .ok (.ldc2_w ix, 3)) (hk : RW g ex d mc ms y cells slots (pc + 3) L (.long v :: S) sh I J P Q) : RW g ex d mc ms y cells slots pc L S sh I J P Q :=
  r_push hk (fun p e s m args below meth c H locs ls A QQ rest hC hL k => lv_ldc2 hC.1 hC.2.1 hC.2.2.2.2.1 (cp_wd hC hw) hd k)
theorem cp_a_s (g : cp_G) {k : Nat} (hk : k < 1000) : cp_a g (1000 + k) = cp_kK g k := by
  unfold cp_a
  rw [if_neg (by omega), if_neg (by omega), if_pos (by omega), Nat.add_sub_cancel_left]
theorem cp_a_b (g : cp_G) (k : Nat) : cp_a g (2000 + k) = cp_kV g k := by
  unfold cp_a
  rw [if_neg (by omega), if_neg (by omega), if_neg (by omega), Nat.add_sub_cancel_left]
theorem r_ldcS {ix k : Nat} {tx : String} (hk9 : k < 1000) (hw : (y.1.cls, ix, tx, k) ∈ cp_rf) (hd : decode y.2.1 pc = .ok (.ldc ix, 2)) (hk : RW g ex d mc ms y cells slots (pc + 2) L (.ref (1000 + k) :: S) sh I J P Q) : RW g ex d mc ms y cells slots pc L S sh I J P Q :=
  r_push hk (fun p e s m args below meth c H locs ls A QQ rest hC hL kk => va_ldcS hC.1 hC.2.1 hC.2.2.2.2.1 (tx := tx) (q := cp_a g (1000 + k)) (by rw [cp_a_s g hk9]; exact hC.2.2.2.2.2.2.2.2.1.2.2.2.2.1 _ hw) hd kk)
theorem r_iload {i len : Nat} {x : Int32} (hd : decode y.2.1 pc = .ok (.iload i, 2)) (hn : i < y.2.2.1) (hv : L i = some (.int x)) (hk : RW g ex d mc ms y cells slots (pc + 2) L (.int x :: S) sh I J P Q) : RW g ex d mc ms y cells slots pc L S sh I J P Q :=
  r_push hk (fun p e s m args below meth c H locs ls A QQ rest hC hL k => lv_iload hC.1 hC.2.1 hd (hL.get hn hv) k)
theorem r_iload_n {n : Fin 4} {i : Nat} {x : Int32} (hd : decode y.2.1 pc = .ok (.iload_n n, 1)) (hi : (n : Nat) = i) (hn : i < y.2.2.1) (hv : L i = some (.int x)) (hk : RW g ex d mc ms y cells slots (pc + 1) L (.int x :: S) sh I J P Q) : RW g ex d mc ms y cells slots pc L S sh I J P Q :=
  r_push hk (fun p e s m args below meth c H locs ls A QQ rest hC hL k => lv_iload_n hC.1 hC.2.1 hd hi (hL.get hn hv) k)
theorem r_lload {i : Nat} {x : Int64} (hd : decode y.2.1 pc = .ok (.lload i, 2)) (hn : i < y.2.2.1) (hv : L i = some (.long x)) (hk : RW g ex d mc ms y cells slots (pc + 2) L (.long x :: S) sh I J P Q) : RW g ex d mc ms y cells slots pc L S sh I J P Q :=
  r_push hk (fun p e s m args below meth c H locs ls A QQ rest hC hL k => lv_lload hC.1 hC.2.1 hd (hL.get hn hv) k)
theorem r_lload_n {n : Fin 4} {i : Nat} {x : Int64} (hd : decode y.2.1 pc = .ok (.lload_n n, 1)) (hi : (n : Nat) = i) (hn : i < y.2.2.1) (hv : L i = some (.long x)) (hk : RW g ex d mc ms y cells slots (pc + 1) L (.long x :: S) sh I J P Q) : RW g ex d mc ms y cells slots pc L S sh I J P Q :=
  r_push hk (fun p e s m args below meth c H locs ls A QQ rest hC hL k => lv_lload_n hC.1 hC.2.1 hd hi (hL.get hn hv) k)
theorem r_aload {i : Nat} {x : Nat} (hd : decode y.2.1 pc = .ok (.aload i, 2)) (hn : i < y.2.2.1) (hv : L i = some (.ref x)) (hk : RW g ex d mc ms y cells slots (pc + 2) L (.ref x :: S) sh I J P Q) : RW g ex d mc ms y cells slots pc L S sh I J P Q :=
  r_push hk (fun p e s m args below meth c H locs ls A QQ rest hC hL k => lv_aload hC.1 hC.2.1 hd (hL.get hn hv) k)
theorem r_aload_n {n : Fin 4} {i : Nat} {x : Nat} (hd : decode y.2.1 pc = .ok (.aload_n n, 1)) (hi : (n : Nat) = i) (hn : i < y.2.2.1) (hv : L i = some (.ref x)) (hk : RW g ex d mc ms y cells slots (pc + 1) L (.ref x :: S) sh I J P Q) : RW g ex d mc ms y cells slots pc L S sh I J P Q :=
  r_push hk (fun p e s m args below meth c H locs ls A QQ rest hC hL k => lv_aload_n hC.1 hC.2.1 hd hi (hL.get hn hv) k)
theorem r_istore {i : Nat} {x : Int32} (hd : decode y.2.1 pc = .ok (.istore i, 2)) (hn : i < y.2.2.1) (hk : RW g ex d mc ms y cells slots (pc + 2) (cp_s1 L i (.int x)) S sh I J P Q) : RW g ex d mc ms y cells slots pc L (.int x :: S) sh I J P Q :=
  r_st1 hk (fun p e s m args below meth c H locs ls A QQ hC hL k => lv_istore hC.1 hC.2.1 hd hL hn rfl k)
theorem r_istore_n {n : Fin 4} {i : Nat} {x : Int32} (hd : decode y.2.1 pc = .ok (.istore_n n, 1)) (hi : (n : Nat) = i) (hn : i < y.2.2.1) (hk : RW g ex d mc ms y cells slots (pc + 1) (cp_s1 L i (.int x)) S sh I J P Q) : RW g ex d mc ms y cells slots pc L (.int x :: S) sh I J P Q :=
  r_st1 hk (fun p e s m args below meth c H locs ls A QQ hC hL k => lv_istore_n hC.1 hC.2.1 hd hi hL hn rfl k)
theorem r_astore {i : Nat} {x : Nat} (hd : decode y.2.1 pc = .ok (.astore i, 2)) (hn : i < y.2.2.1) (hk : RW g ex d mc ms y cells slots (pc + 2) (cp_s1 L i (.ref x)) S sh I J P Q) : RW g ex d mc ms y cells slots pc L (.ref x :: S) sh I J P Q :=
  r_st1 hk (fun p e s m args below meth c H locs ls A QQ hC hL k => lv_astore hC.1 hC.2.1 hd hL hn rfl k)
theorem r_astore_n {n : Fin 4} {i : Nat} {x : Nat} (hd : decode y.2.1 pc = .ok (.astore_n n, 1)) (hi : (n : Nat) = i) (hn : i < y.2.2.1) (hk : RW g ex d mc ms y cells slots (pc + 1) (cp_s1 L i (.ref x)) S sh I J P Q) : RW g ex d mc ms y cells slots pc L (.ref x :: S) sh I J P Q :=
  r_st1 hk (fun p e s m args below meth c H locs ls A QQ hC hL k => lv_astore_n hC.1 hC.2.1 hd hi hL hn rfl k)
theorem r_lstore {i : Nat} {x : Int64} (hd : decode y.2.1 pc = .ok (.lstore i, 2)) (hn : i + 1 < y.2.2.1) (hk : RW g ex d mc ms y cells slots (pc + 2) (cp_s2 L i (.long x)) S sh I J P Q) : RW g ex d mc ms y cells slots pc L (.long x :: S) sh I J P Q :=
  r_st2 hk (fun p e s m args below meth c H locs ls A QQ hC hL k => lv_lstore hC.1 hC.2.1 hd hL hn rfl k)
theorem r_lstore_n {n : Fin 4} {i : Nat} {x : Int64} (hd : decode y.2.1 pc = .ok (.lstore_n n, 1)) (hi : (n : Nat) = i) (hn : i + 1 < y.2.2.1) (hk : RW g ex d mc ms y cells slots (pc + 1) (cp_s2 L i (.long x)) S sh I J P Q) : RW g ex d mc ms y cells slots pc L (.long x :: S) sh I J P Q :=
  r_st2 hk (fun p e s m args below meth c H locs ls A QQ hC hL k => lv_lstore_n hC.1 hC.2.1 hd hi hL hn rfl k)
theorem r_iinc {i : Nat} {n : Int} {x v : Int32} (hd : decode y.2.1 pc = .ok (.iinc i n, 3)) (hv : Int32.ofInt n = v) (hn : i < y.2.2.1) (hx : L i = some (.int x)) (hk : RW g ex d mc ms y cells slots (pc + 3) (cp_s1 L i (.int (x + v))) S sh I J P Q) : RW g ex d mc ms y cells slots pc L S sh I J P Q :=
  r_st1 hk (fun p e s m args below meth c H locs ls A QQ hC hL k => by
    have hm : (i, Value.int x) ∈ cp_lv g y.2.2.1 L := cp_lv_mem.mpr ⟨hn, _, hx, rfl⟩
    obtain ⟨j, hj⟩ := List.getElem?_of_mem hm
    exact lv_iinc (k := j) (x := x) (v := x + v) hC.1 hC.2.1 hd hL hj (by rw [hv]) hn rfl k)
end CpSteps
