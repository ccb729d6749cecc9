def cp_c {α : Type} (f : Nat → Nat → α) (n : Nat) (x : α) : Nat → Nat → α := fun b j => if b = n then x else f b j
theorem cp_c_s {α : Type} (f : Nat → Nat → α) (n : Nat) (x : α) : cp_c f n x n = fun _ => x := by funext j; simp [cp_c]
theorem cp_c_o {α : Type} (f : Nat → Nat → α) (n : Nat) (x : α) {b : Nat} (h : b ≠ n) : cp_c f n x b = f b := by funext j; simp [cp_c, h]
theorem cp_sh_l {sh : cp_H} {q : Nat × Nat} {a : Nat} (h : a < sh.length) : cp_sh (sh ++ [q]) a = cp_sh sh a := by
  unfold cp_sh
  rw [List.getD_eq_getElem?_getD, List.getD_eq_getElem?_getD, List.getElem?_append_left h]
theorem cp_sh_n {sh : cp_H} {q : Nat × Nat} : cp_sh (sh ++ [q]) sh.length = q := by
  unfold cp_sh
  rw [List.getD_eq_getElem?_getD, List.getElem?_append_right (Nat.le_refl _), Nat.sub_self]
  rfl
theorem cp_ws_push (g : cp_G) (sh : cp_H) (q : Nat × Nat) (I : cp_I) (J : cp_J) (P : cp_P) : cp_ws g (sh ++ [q]) (cp_c I sh.length 0) (cp_c J sh.length 0) (cp_c P sh.length .null) = cp_ws g sh I J P ++ [(cp_z g + sh.length, cp_e g q (fun _ => 0) (fun _ => 0) (fun _ => .null))] := by
  apply List.ext_getElem?
  intro k
  rcases Nat.lt_trichotomy k sh.length with h | h | h
  · rw [cp_ws_get _ _ _ _ _ (by rw [List.length_append, List.length_singleton]; omega), List.getElem?_append_left (by rw [cp_ws_len]; exact h), cp_ws_get _ _ _ _ _ h, cp_sh_l h, cp_c_o _ _ _ (Nat.ne_of_lt h), cp_c_o _ _ _ (Nat.ne_of_lt h), cp_c_o _ _ _ (Nat.ne_of_lt h)]
  · subst h
    rw [cp_ws_get _ _ _ _ _ (by rw [List.length_append, List.length_singleton]; omega), List.getElem?_append_right (by rw [cp_ws_len]; exact Nat.le_refl _), cp_ws_len, Nat.sub_self, cp_sh_n, cp_c_s, cp_c_s, cp_c_s]
    rfl
  · rw [List.getElem?_eq_none (by rw [cp_ws_len, List.length_append, List.length_singleton]; omega), List.getElem?_eq_none (by rw [List.length_append, cp_ws_len, List.length_singleton]; omega)]
theorem cp_dflt : ∀ (ci : Nat) (C : String) (T : u_T) (N : Nat), vwCl[ci]? = some (C, T, N) → ∀ j, j < N → defaultValue (cp_ty ci j) = cp_fa (cp_ty ci j) 0 0 .null
  | 0, _, _, _, h => by cases h; decide +kernel
  | 1, _, _, _, h => by cases h; decide +kernel
  | 2, _, _, _, h => by cases h; decide +kernel
  | 3, _, _, _, h => by cases h; decide +kernel
  | 4, _, _, _, h => by cases h; decide +kernel
  | 5, _, _, _, h => by cases h; decide +kernel
  | 6, _, _, _, h => by cases h; decide +kernel
  | 7, _, _, _, h => by cases h; decide +kernel
  | 8, _, _, _, h => by cases h; decide +kernel
  | 9, _, _, _, h => by cases h; decide +kernel
  | 10, _, _, _, h => by cases h; decide +kernel
  | 11, _, _, _, h => by cases h; decide +kernel
  | _ + 12, _, _, _, h => by cases h
theorem cp_v_dflt (g : cp_G) (ty : FieldType) : cp_v g (defaultValue ty) = defaultValue ty := by cases ty <;> rfl
section CpMake
variable {g : cp_G} {ex : Bool} {d mc ms : Nat} {y : cp_M} {cells slots pc : Nat} {L : cp_Lo} {S : List Value} {sh : cp_H} {I : cp_I} {J : cp_J} {P : cp_P} {Q : cp_QT}
theorem r_new {ix ci N : Nat} {C : String} {T : u_T} (hex : ex = true) (hc : vwCl[ci]? = some (C, T, N)) (hwl : Jvm.Cond.classLink y.1.cls ix C ∈ cp_WT) (hwi : Jvm.Cond.instantiable C N ∈ cp_WT) (hwn : Jvm.Cond.initialized C ∈ cp_WT) (hlen : sh.length < 500) (hce : cells + 1 ≤ mc) (hsl : slots + N ≤ ms) (hd : decode y.2.1 pc = .ok (.new ix, 3))
    (hk : RW g ex d mc ms y (cells + 1) (slots + N) (pc + 3) L (.ref sh.length :: S) (sh ++ [(ci + 3, N)]) (cp_c I sh.length 0) (cp_c J sh.length 0) (cp_c P sh.length .null) Q) : RW g ex d mc ms y cells slots pc L S sh I J P Q := by
  intro p e s m args below meth c H locs ls A hC hR hA hS hL hx z1 z2 TT hT X
  have hF := hC.2.2.2.2.2.2.2.2.1
  have hHx := cp_exact hT X hR hS hF.2.1.2.2.2 hx hex
  obtain ⟨q1, q2, q3, q4⟩ := cp_clsOf ci C T N hc
  have hKn := hF.1.1 ci _ hc
  suffices hW : W p (cp_l g) e (cp_rm d mc ms) s m args below meth c H locs cells slots (cp_MQ g y ex mc ms A Q below args s) (F0 m pc ls (S.map (cp_v g))) from hW TT hT X
  refine W.newcK hC.1 hC.2.1 hC.2.2.2.2.1 (cp_wd hC hwl) (cp_wd hC hwi) (cp_wd hC hwn) rfl hd hce hsl hKn.2.1 (h := cp_z g + sh.length) hHx (fun H1 kC hkC e1 w1 o1 => ?_)
  have hkp : ∀ (k : Nat) (x : Nat × va_E), (cp_ws g sh I J P)[k]? = some x → H1[x.1]? = H[x.1]? := fun k x hx => o1 x.1 (by have := (hR.1 k x hx).lt; omega)
  have k1 := hk p e s m args below meth c H1 locs ls A hC ⟨?_, by rw [List.length_append, List.length_singleton]; omega⟩ ?_ ⟨?_, ?_, hS.2.2⟩ hL (fun q => by have := hx q; rw [List.length_append, List.length_singleton]; omega) hce hsl
  · have ha : cp_a g sh.length = cp_z g + sh.length := cp_a_lt g hlen
    have k2 : W p (cp_l g) e (cp_rm d mc ms) s m args below meth c H1 locs (cells + 1) (slots + N) (cp_MQ g y ex mc ms A Q below args s) (F0 m (pc + 3) ls (.ref (cp_a g sh.length) :: S.map (cp_v g))) := k1
    rw [ha] at k2
    exact k2
  · rw [cp_ws_push]
    refine (hR.1.kept hkp).app (fun k x hx => ?_)
    have hz : k < 1 := (List.getElem?_eq_some_iff.mp hx).1
    rw [show k = 0 by omega] at hx
    cases hx
    refine ⟨_, hc, (u_born (cp_ty ci) hC.2.2.2.2.2.1 q2 hKn hkC e1 q3).to (fun j hj => ?_)⟩
    show defaultValue (cp_ty ci j) = (cp_fs g ci N _ _ _).getD j .null
    rw [List.getD_eq_getElem?_getD, cp_fs_get _ _ _ _ _ _ hj, Option.getD_some, ← cp_fa_v, ← cp_dflt ci C T N hc j hj, cp_v_dflt]
  · intro a ha
    rw [List.length_append, List.length_singleton] at ha
    rcases Nat.lt_or_ge a sh.length with q | q
    · exact hA a q
    · refine hC.2.2.2.2.2.2.2.1 _ ?_
      have := hS.1
      omega
  · have := hS.1
    omega
  · intro q h1 h2
    have := hS.1
    exact (o1 q (by omega)).trans (hS.2.1 q h1 h2)
def cp_aty (cd : Nat) : ArrayType := match cd with
  | 0 => .int
  | 1 => .byte
  | _ => .long
theorem r_newa {cd N : Nat} {n : Int32} (hex : ex = true) (hcd : cd < 3) (hw : Jvm.Cond.arrayClass (newarray.typeOf (cp_aty cd)) ∈ cp_WT) (hn : ¬ n < 0) (hN : n.toNatClampNeg = N) (hNb : N ≤ 65536) (hlen : sh.length < 500) (hce : cells + 1 ≤ mc) (hsl : slots + N ≤ ms) (hd : decode y.2.1 pc = .ok (.newarray (cp_aty cd), 2))
    (hk : RW g ex d mc ms y (cells + 1) (slots + N) (pc + 2) L (.ref sh.length :: S) (sh ++ [(cd, N)]) (cp_c I sh.length 0) (cp_c J sh.length 0) (cp_c P sh.length .null) Q) : RW g ex d mc ms y cells slots pc L (.int n :: S) sh I J P Q := by
  intro p e s m args below meth c H locs ls A hC hR hA hS hL hx z1 z2 TT hT X
  have hF := hC.2.2.2.2.2.2.2.2.1
  have hHx := cp_exact hT X hR hS hF.2.1.2.2.2 hx hex
  have hby : N * componentBytes (newarray.typeOf (cp_aty cd)) ≤ 536870912 := by
    have hc8 : componentBytes (newarray.typeOf (cp_aty cd)) ≤ 8 := by
      rcases (show cd = 0 ∨ cd = 1 ∨ cd = 2 by omega) with rfl | rfl | rfl <;> decide
    exact Nat.le_trans (Nat.mul_le_mul hNb hc8) (by decide)
  suffices hW : W p (cp_l g) e (cp_rm d mc ms) s m args below meth c H locs cells slots (cp_MQ g y ex mc ms A Q below args s) (F0 m pc ls (.int n :: S.map (cp_v g))) from hW TT hT X
  refine va_newaK hC.1 hC.2.1 (atype := cp_aty cd) (cp_wd hC hw) rfl hd rfl hn hN hby hce hsl (h := cp_z g + sh.length) hHx (fun H1 cA e1 w1 o1 hAr hNm => ?_)
  have hkp : ∀ (k : Nat) (x : Nat × va_E), (cp_ws g sh I J P)[k]? = some x → H1[x.1]? = H[x.1]? := fun k x hx => o1 x.1 (by have := (hR.1 k x hx).lt; omega)
  have k1 := hk p e s m args below meth c H1 locs ls A hC ⟨?_, by rw [List.length_append, List.length_singleton]; omega⟩ ?_ ⟨?_, ?_, hS.2.2⟩ hL (fun q => by have := hx q; rw [List.length_append, List.length_singleton]; omega) hce hsl
  · have ha : cp_a g sh.length = cp_z g + sh.length := cp_a_lt g hlen
    have k2 : W p (cp_l g) e (cp_rm d mc ms) s m args below meth c H1 locs (cells + 1) (slots + N) (cp_MQ g y ex mc ms A Q below args s) (F0 m (pc + 2) ls (.ref (cp_a g sh.length) :: S.map (cp_v g))) := k1
    rw [ha] at k2
    exact k2
  · rw [cp_ws_push]
    refine (hR.1.kept hkp).app (fun k x hx => ?_)
    have hz : k < 1 := (List.getElem?_eq_some_iff.mp hx).1
    rw [show k = 0 by omega] at hx
    cases hx
    rcases (show cd = 0 ∨ cd = 1 ∨ cd = 2 by omega) with rfl | rfl | rfl
    · have h1 : s.vm.findClass ("[" ++ (newarray.typeOf (cp_aty 0)).toString) = some (cp_A g 0) := (hF.1.2 0 _ rfl).2
      have h2 : cp_A g 0 = cA := Option.some.inj (h1.symm.trans hNm)
      show H1[_]? = some (vp_cell (cp_A g 0) _)
      rw [h2]
      exact e1
    · have h1 : s.vm.findClass ("[" ++ (newarray.typeOf (cp_aty 1)).toString) = some (cp_A g 1) := (hF.1.2 1 _ rfl).2
      have h2 : cp_A g 1 = cA := Option.some.inj (h1.symm.trans hNm)
      show H1[_]? = some (vp_cell (cp_A g 1) _)
      rw [h2]
      exact e1
    · have h1 : s.vm.findClass ("[" ++ (newarray.typeOf (cp_aty 2)).toString) = some (cp_A g 2) := (hF.1.2 2 _ rfl).2
      have h2 : cp_A g 2 = cA := Option.some.inj (h1.symm.trans hNm)
      show H1[_]? = some (vp_cell (cp_A g 2) _)
      rw [h2]
      exact e1
  · intro a ha
    rw [List.length_append, List.length_singleton] at ha
    rcases Nat.lt_or_ge a sh.length with q | q
    · exact hA a q
    · refine hC.2.2.2.2.2.2.2.1 _ ?_
      have := hS.1
      omega
  · have := hS.1
    omega
  · intro q h1 h2
    have := hS.1
    exact (o1 q (by omega)).trans (hS.2.1 q h1 h2)
theorem cp_sum8 {rest : List Value} (h : rest.length ≤ 4) : ((rest.map (cp_v g)).map fun v => v.category).sum ≤ 8 := by
  have key : ∀ l : List Value, ((l.map (cp_v g)).map fun v => v.category).sum ≤ 2 * l.length := by
    intro l
    induction l with
    | nil => simp
    | cons v l ih =>
      rw [List.map_cons, List.map_cons, List.sum_cons, List.length_cons, cp_cat]
      rcases lv_cat v with q | q <;> omega
  have := key rest
  omega
theorem r_objInit {ix b : Nat} (hd1 : 1 ≤ d) (hre : S.length ≤ 4) (hw : Jvm.Cond.methodLink y.1.cls ix objectInit ∈ cp_WT) (hwi : Jvm.Cond.instanceMethod objectInit ∈ cp_WT) (hwc : Jvm.Cond.code objectInit ⟨#[0xb1]⟩ 1 none ∈ cp_WT) (hd : decode y.2.1 pc = .ok (.invokespecial ix, 3))
    (hk : RW g ex d mc ms y cells slots (pc + 3) L S sh I J P Q) : RW g ex d mc ms y cells slots pc L (.ref b :: S) sh I J P Q := by
  refine r_pure hk (fun p e s m args below meth c H locs ls A QQ hC hL z1 z2 k => ?_)
  refine W.objInit hC.1 hC.2.1 hC.2.2.2.2.1 (cp_wd hC hw) (cp_wd hC hwi) (cp_wd hC hwc) rfl (hL.1.trans hC.2.2.2.1.symm) (a := cp_a g b) (rest := S.map (cp_v g)) rfl hd (by show 1 ≤ d; exact hd1) ?_ k
  have h8 := cp_room (g := g) (pc := pc) hre (m := m) (ls := ls) (st := List.map (cp_v g) (Value.ref b :: S))
  show _ + 12 ≤ 40 * d
  omega
theorem r_max {ix : Nat} {a b : Int32} (hd1 : 1 ≤ d) (hre : S.length ≤ 4) (hw : Jvm.Cond.methodLink y.1.cls ix Lib.Math.max.name ∈ cp_WT) (hws : Jvm.Cond.static Lib.Math.max.name ∈ cp_WT) (hwi : Jvm.Cond.initialized "java/lang/Math" ∈ cp_WT) (hwc : Jvm.Cond.code Lib.Math.max.name Lib.Math.max.code 2 (some .int) ∈ cp_WT) (hd : decode y.2.1 pc = .ok (.invokestatic ix, 3))
    (hk : RW g ex d mc ms y cells slots (pc + 3) L (.int (if a < b then b else a) :: S) sh I J P Q) : RW g ex d mc ms y cells slots pc L (.int b :: .int a :: S) sh I J P Q := by
  refine r_pure hk (fun p e s m args below meth c H locs ls A QQ hC hL z1 z2 k => ?_)
  have h8 := cp_sum8 (g := g) hre
  exact va_mmax hC.1 hC.2.1 (hC.2.2.2.1.trans hL.1.symm) hC.2.2.2.2.1 (cp_wd hC hw) (cp_wd hC hws) (cp_wd hC hwi) (cp_wd hC hwc) (by show 1 ≤ d; exact hd1) (by show _ + 13 ≤ 40 * d; omega) z1 z2 hd k
theorem r_min {ix : Nat} {a b : Int32} (hd1 : 1 ≤ d) (hre : S.length ≤ 4) (hw : Jvm.Cond.methodLink y.1.cls ix Lib.Math.min.name ∈ cp_WT) (hws : Jvm.Cond.static Lib.Math.min.name ∈ cp_WT) (hwi : Jvm.Cond.initialized "java/lang/Math" ∈ cp_WT) (hwc : Jvm.Cond.code Lib.Math.min.name Lib.Math.min.code 2 (some .int) ∈ cp_WT) (hd : decode y.2.1 pc = .ok (.invokestatic ix, 3))
    (hk : RW g ex d mc ms y cells slots (pc + 3) L (.int (if b < a then b else a) :: S) sh I J P Q) : RW g ex d mc ms y cells slots pc L (.int b :: .int a :: S) sh I J P Q := by
  refine r_pure hk (fun p e s m args below meth c H locs ls A QQ hC hL z1 z2 k => ?_)
  have h8 := cp_sum8 (g := g) hre
  exact va_mmin hC.1 hC.2.1 (hC.2.2.2.1.trans hL.1.symm) hC.2.2.2.2.1 (cp_wd hC hw) (cp_wd hC hws) (cp_wd hC hwi) (cp_wd hC hwc) (by show 1 ≤ d; exact hd1) (by show _ + 13 ≤ 40 * d; omega) z1 z2 hd k
end CpMake
