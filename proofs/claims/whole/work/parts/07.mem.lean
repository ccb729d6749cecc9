/-- what a class's tables say, by its number -/
def cp_cls (ci : Nat) (C : String) (T : u_T) (N : Nat) : Prop := vwCl[ci]? = some (C, T, N) ∧ (∀ w ∈ u_ws C T N, w ∈ cp_WT) ∧ (∀ k, k < N → parseFieldDescriptor (T k).2.2.1 = some (cp_ty ci k)) ∧ (∀ a, a < N → ∀ b, b < N → a ≠ b → (T a).2.1 ≠ (T b).2.1)
theorem cp_clsOf : ∀ (ci : Nat) (C : String) (T : u_T) (N : Nat), vwCl[ci]? = some (C, T, N) → cp_cls ci C T N
  | 0, _, _, _, h => by cases h; exact ⟨rfl, cp_in0, tyX0_ok, nmX0⟩
  | 1, _, _, _, h => by cases h; exact ⟨rfl, cp_in1, tyX1_ok, nmX1⟩
  | 2, _, _, _, h => by cases h; exact ⟨rfl, cp_in2, tyX2_ok, nmX2⟩
  | 3, _, _, _, h => by cases h; exact ⟨rfl, cp_in3, tyX3_ok, nmX3⟩
  | 4, _, _, _, h => by cases h; exact ⟨rfl, cp_in4, tyX4_ok, nmX4⟩
  | 5, _, _, _, h => by cases h; exact ⟨rfl, cp_in5, tyX5_ok, nmX5⟩
  | 6, _, _, _, h => by cases h; exact ⟨rfl, cp_in6, tyX6_ok, nmX6⟩
  | 7, _, _, _, h => by cases h; exact ⟨rfl, cp_in7, tyX7_ok, nmX7⟩
  | 8, _, _, _, h => by cases h; exact ⟨rfl, cp_in8, tyX8_ok, nmX8⟩
  | 9, _, _, _, h => by cases h; exact ⟨rfl, cp_in9, tyX9_ok, nmX9⟩
  | 10, _, _, _, h => by cases h; exact ⟨rfl, cp_in10, tyX10_ok, nmX10⟩
  | 11, _, _, _, h => by cases h; exact ⟨rfl, cp_in11, tyX11_ok, nmX11⟩
  | _ + 12, _, _, _, h => by cases h
def cp_fa (ty : FieldType) (i : Int32) (j : Int64) (p : Value) : Value := match ty with
  | .long => .long j
  | .object _ => p
  | .array _ => p
  | _ => .int i
theorem cp_fa_v (g : cp_G) (ty : FieldType) (i : Int32) (j : Int64) (p : Value) : cp_v g (cp_fa ty i j p) = cp_fv g ty i j p := by cases ty <;> rfl
theorem cp_sh_lt {sh : cp_H} {a : Nat} (h : cp_sh sh a ≠ (0, 0)) : a < sh.length := by
  rcases Nat.lt_or_ge a sh.length with q | q
  · exact q
  · exact absurd (by unfold cp_sh; rw [List.getD_eq_getElem?_getD, List.getElem?_eq_none q]; rfl) h
theorem cp_a_lt (g : cp_G) {a : Nat} (h : a < 500) : cp_a g a = cp_z g + a := by unfold cp_a; rw [if_pos h]
theorem cp_fs_get (g : cp_G) (c n : Nat) (I1 : Nat → Int32) (J1 : Nat → Int64) (P1 : Nat → Value) {k : Nat} (h : k < n) : (cp_fs g c n I1 J1 P1)[k]? = some (cp_fv g (cp_ty c k) (I1 k) (J1 k) (P1 k)) := by
  simp [cp_fs, List.getElem?_map, List.getElem?_range h]
theorem cp_fs_len (g : cp_G) (c n : Nat) (I1 : Nat → Int32) (J1 : Nat → Int64) (P1 : Nat → Value) : (cp_fs g c n I1 J1 P1).length = n := by simp [cp_fs]
theorem cp_fs_set (g : cp_G) (c n : Nat) {I1 I2 : Nat → Int32} {J1 J2 : Nat → Int64} {P1 P2 : Nat → Value} {k : Nat} (h : k < n) {v : Value} (hv : v = cp_fv g (cp_ty c k) (I2 k) (J2 k) (P2 k)) (hI : ∀ j, j ≠ k → I2 j = I1 j) (hJ : ∀ j, j ≠ k → J2 j = J1 j) (hP : ∀ j, j ≠ k → P2 j = P1 j) :
    (cp_fs g c n I1 J1 P1).set k v = cp_fs g c n I2 J2 P2 := by
  apply List.ext_getElem?
  intro j
  by_cases hj : j = k
  · subst hj
    rw [List.getElem?_set_self (by rw [cp_fs_len]; exact h), cp_fs_get _ _ _ _ _ _ h, hv]
  · rw [List.getElem?_set_ne (Ne.symm hj)]
    by_cases hl : j < n
    · rw [cp_fs_get _ _ _ _ _ _ hl, cp_fs_get _ _ _ _ _ _ hl, hI j hj, hJ j hj, hP j hj]
    · rw [List.getElem?_eq_none (by rw [cp_fs_len]; omega), List.getElem?_eq_none (by rw [cp_fs_len]; omega)]
section CpMem
variable {g : cp_G} {ex : Bool} {d mc ms : Nat} {y : cp_M} {cells slots pc : Nat} {L : cp_Lo} {S : List Value} {sh : cp_H} {I : cp_I} {J : cp_J} {P : cp_P} {Q : cp_QT}
theorem cp_e_obj {a ci N : Nat} (hs : cp_sh sh a = (ci + 3, N)) : (cp_ws g sh I J P)[a]? = some (cp_z g + a, .inr (ci, cp_fs g ci N (I a) (J a) (P a))) := by
  have hl : a < sh.length := cp_sh_lt (by rw [hs]; exact fun h => by cases h)
  rw [cp_ws_get g sh I J P hl, hs]
  rfl
theorem r_get {ix ci k N a : Nat} {C : String} {T : u_T} (hc : vwCl[ci]? = some (C, T, N)) (hkN : k < N) (hw : Jvm.Cond.fieldLink y.1.cls ix (T k).1 (T k).2.1 (T k).2.2.1 ∈ cp_WT) (hs : cp_sh sh a = (ci + 3, N)) (hd : decode y.2.1 pc = .ok (.getfield ix, 3))
    (hk : RW g ex d mc ms y cells slots (pc + 3) L (cp_fa (cp_ty ci k) (I a k) (J a k) (P a k) :: S) sh I J P Q) : RW g ex d mc ms y cells slots pc L (.ref a :: S) sh I J P Q := by
  intro p e s m args below meth c H locs ls A hC hR hA hS hL hx h1 h2
  obtain ⟨q1, q2, q3, q4⟩ := cp_clsOf ci C T N hc
  have hl : a < sh.length := cp_sh_lt (by rw [hs]; exact fun h => by cases h)
  have k1 := hk p e s m args below meth c H locs ls A hC hR hA hS hL hx h1 h2
  rw [List.map_cons, cp_fa_v] at k1
  have h3 := va_get (k := k) (q0 := a) (v := cp_fv g (cp_ty ci k) (I a k) (J a k) (P a k)) hC.1 hC.2.1 hC.2.2.2.2.2.1 q2 hC.2.2.2.2.1 hC.2.2.2.2.2.2.2.2.1.1 hR.1 (cp_e_obj hs) q1 hkN (cp_wd hC hw) (fun _ h => h) (cp_fs_get g ci N (I a) (J a) (P a) hkN) hd k1
  show W p (cp_l g) e (cp_rm d mc ms) s m args below meth c H locs cells slots _ (F0 m pc ls (.ref (cp_a g a) :: S.map (cp_v g)))
  rw [cp_a_lt g (Nat.lt_of_lt_of_le hl hR.2)]
  exact h3
/-- what is put fits the field's type -/
def cp_fit (ty : FieldType) (v : Value) : Prop := narrow ty v = v ∧ fits ty v = true
theorem cp_fit_v {g : cp_G} {ty : FieldType} {v : Value} (h : cp_fit ty v) : cp_fit ty (cp_v g v) := by
  cases v <;> first | exact h | (obtain ⟨h1, h2⟩ := h; cases ty <;> first | (cases h2; done) | exact ⟨rfl, rfl⟩)
theorem r_put {ix ci k N a : Nat} {C : String} {T : u_T} {v : Value} {I' : cp_I} {J' : cp_J} {P' : cp_P} (hc : vwCl[ci]? = some (C, T, N)) (hkN : k < N) (hw : Jvm.Cond.fieldLink y.1.cls ix (T k).1 (T k).2.1 (T k).2.2.1 ∈ cp_WT) (hfin : (T k).2.2.2 = false ∨ (y.1.name = "<init>" ∧ (T k).1 = y.1.cls)) (hs : cp_sh sh a = (ci + 3, N)) (hft : cp_fit (cp_ty ci k) v)
    (hv : cp_fa (cp_ty ci k) (I' a k) (J' a k) (P' a k) = v) (hI : ∀ b j, ¬ (b = a ∧ j = k) → I' b j = I b j) (hJ : ∀ b j, ¬ (b = a ∧ j = k) → J' b j = J b j) (hP : ∀ b j, ¬ (b = a ∧ j = k) → P' b j = P b j) (hd : decode y.2.1 pc = .ok (.putfield ix, 3))
    (hk : RW g ex d mc ms y cells slots (pc + 3) L S sh I' J' P' Q) : RW g ex d mc ms y cells slots pc L (v :: .ref a :: S) sh I J P Q := by
  intro p e s m args below meth c H locs ls A hC hR hA hS hL hx h1 h2
  obtain ⟨q1, q2, q3, q4⟩ := cp_clsOf ci C T N hc
  have hl : a < sh.length := cp_sh_lt (by rw [hs]; exact fun h => by cases h)
  obtain ⟨hn, hf⟩ := cp_fit_v (g := g) hft
  have hset : (cp_ws g sh I J P).set a (cp_z g + a, .inr (ci, (cp_fs g ci N (I a) (J a) (P a)).set k (cp_v g v))) = cp_ws g sh I' J' P' := by
    refine cp_ws_set hl ?_ (fun b hb => funext fun j => hI b j (fun q => hb q.1)) (fun b hb => funext fun j => hJ b j (fun q => hb q.1)) (fun b hb => funext fun j => hP b j (fun q => hb q.1))
    rw [hs]
    show _ = Sum.inr (ci, cp_fs g ci N (I' a) (J' a) (P' a))
    rw [cp_fs_set g ci N hkN (I2 := I' a) (J2 := J' a) (P2 := P' a) (by rw [← hv, cp_fa_v]) (fun j hj => hI a j (fun q => hj q.2)) (fun j hj => hJ a j (fun q => hj q.2)) (fun j hj => hP a j (fun q => hj q.2))]
  have hkk : ∀ (H1 : Heap) (locs1 : List Loc), va_P (cp_D g) vwCl ((cp_ws g sh I J P).set a (cp_z g + a, .inr (ci, (cp_fs g ci N (I a) (J a) (P a)).set k (cp_v g v)))) H1 → va_D A ((cp_ws g sh I J P).set a (cp_z g + a, .inr (ci, (cp_fs g ci N (I a) (J a) (P a)).set k (cp_v g v)))) → va_S A s.heap H1 locs1 → W p (cp_l g) e (cp_rm d mc ms) s m args below meth c H1 locs1 cells slots (cp_MQ g y ex mc ms A Q below args s) (F0 m (pc + 3) ls (S.map (cp_v g))) := by
    intro H1 locs1 hp _ hs1
    rw [hset] at hp
    exact hk p e s m args below meth c H1 locs1 ls A hC ⟨hp, hR.2⟩ hA hs1 hL hx h1 h2
  show W p (cp_l g) e (cp_rm d mc ms) s m args below meth c H locs cells slots _ (F0 m pc ls (cp_v g v :: .ref (cp_a g a) :: S.map (cp_v g)))
  rw [cp_a_lt g (Nat.lt_of_lt_of_le hl hR.2)]
  rcases hfin with hfin | ⟨hi1, hi2⟩
  · exact va_put (k := k) (q0 := a) hC.1 hC.2.1 hC.2.2.2.2.2.1 q2 (cp_ty ci) q3 q4 hC.2.2.2.2.1 hC.2.2.2.2.2.2.2.2.1.1 hR.1 (cp_Dof hA) hS (cp_e_obj hs) q1 hkN (cp_wd hC hw) (fun _ h => h) hfin (q3 k hkN) hn hf (by rw [cp_fs_len]; exact hkN) hd hkk
  · cases hb : (T k).2.2.2 with
    | false => exact va_put (k := k) (q0 := a) hC.1 hC.2.1 hC.2.2.2.2.2.1 q2 (cp_ty ci) q3 q4 hC.2.2.2.2.1 hC.2.2.2.2.2.2.2.2.1.1 hR.1 (cp_Dof hA) hS (cp_e_obj hs) q1 hkN (cp_wd hC hw) (fun _ h => h) hb (q3 k hkN) hn hf (by rw [cp_fs_len]; exact hkN) hd hkk
    | true => exact va_putF (k := k) (q0 := a) hC.1 hC.2.1 hC.2.2.2.2.2.1 q2 (cp_ty ci) q3 q4 hC.2.2.2.2.1 hC.2.2.2.2.2.2.2.2.1.1 hR.1 (cp_Dof hA) hS (cp_e_obj hs) q1 hkN (cp_wd hC hw) (fun _ h => h) hb (hC.2.2.2.2.2.2.2.2.2.1.trans hi1) hi2 (q3 k hkN) hn hf (by rw [cp_fs_len]; exact hkN) hd hkk
end CpMem
