section CpArr
variable {g : cp_G} {ex : Bool} {d mc ms : Nat} {y : cp_M} {cells slots pc : Nat} {L : cp_Lo} {S : List Value} {sh : cp_H} {I : cp_I} {J : cp_J} {P : cp_P} {Q : cp_QT}
theorem cp_e_0 {a n : Nat} (hl : a < sh.length) (hs : cp_sh sh a = (0, n)) : (cp_ws g sh I J P)[a]? = some (cp_z g + a, .inl (cp_A g 0, n, .inl (I a))) := by
  rw [cp_ws_get g sh I J P hl, hs]
  rfl
theorem cp_e_1 {a n : Nat} (hl : a < sh.length) (hs : cp_sh sh a = (1, n)) : (cp_ws g sh I J P)[a]? = some (cp_z g + a, .inl (cp_A g 1, n, .inl (I a))) := by
  rw [cp_ws_get g sh I J P hl, hs]
  rfl
theorem cp_e_2 {a n : Nat} (hl : a < sh.length) (hs : cp_sh sh a = (2, n)) : (cp_ws g sh I J P)[a]? = some (cp_z g + a, .inl (cp_A g 2, n, .inr (.inl (J a)))) := by
  rw [cp_ws_get g sh I J P hl, hs]
  rfl
theorem cp_in_lt {a c n : Nat} {i : Int32} (hs : cp_sh sh a = (c, n)) (hi : vp_in i n) : a < sh.length := by
  refine cp_sh_lt (fun h => ?_)
  rw [hs] at h
  cases h
  exact hi (Or.inr (Nat.zero_le _))
theorem r_iald {a n : Nat} {i : Int32} (hs : cp_sh sh a = (0, n)) (hi : vp_in i n) (hd : decode y.2.1 pc = .ok (.iaload, 1)) (hk : RW g ex d mc ms y cells slots (pc + 1) L (.int (I a i.toNatClampNeg) :: S) sh I J P Q) : RW g ex d mc ms y cells slots pc L (.int i :: .ref a :: S) sh I J P Q := by
  intro p e s m args below meth c H locs ls A hC hR hA hS hL hx h1 h2
  have hl := cp_in_lt hs hi
  show W p (cp_l g) e (cp_rm d mc ms) s m args below meth c H locs cells slots _ (F0 m pc ls (.int i :: .ref (cp_a g a) :: S.map (cp_v g)))
  rw [cp_a_lt g (Nat.lt_of_lt_of_le hl hR.2)]
  exact va_iald hC.1 hC.2.1 hC.2.2.2.2.2.2.2.2.1.1 hR.1 a 0 (cp_e_0 hl hs) rfl hi hd (hk p e s m args below meth c H locs ls A hC hR hA hS hL hx h1 h2)
theorem r_bald {a n : Nat} {i : Int32} (hs : cp_sh sh a = (1, n)) (hi : vp_in i n) (hd : decode y.2.1 pc = .ok (.baload, 1)) (hk : RW g ex d mc ms y cells slots (pc + 1) L (.int (I a i.toNatClampNeg) :: S) sh I J P Q) : RW g ex d mc ms y cells slots pc L (.int i :: .ref a :: S) sh I J P Q := by
  intro p e s m args below meth c H locs ls A hC hR hA hS hL hx h1 h2
  have hl := cp_in_lt hs hi
  show W p (cp_l g) e (cp_rm d mc ms) s m args below meth c H locs cells slots _ (F0 m pc ls (.int i :: .ref (cp_a g a) :: S.map (cp_v g)))
  rw [cp_a_lt g (Nat.lt_of_lt_of_le hl hR.2)]
  exact va_bald hC.1 hC.2.1 hC.2.2.2.2.2.2.2.2.1.1 hR.1 a 1 (cp_e_1 hl hs) rfl hi hd (hk p e s m args below meth c H locs ls A hC hR hA hS hL hx h1 h2)
theorem r_lald {a n : Nat} {i : Int32} (hs : cp_sh sh a = (2, n)) (hi : vp_in i n) (hd : decode y.2.1 pc = .ok (.laload, 1)) (hk : RW g ex d mc ms y cells slots (pc + 1) L (.long (J a i.toNatClampNeg) :: S) sh I J P Q) : RW g ex d mc ms y cells slots pc L (.int i :: .ref a :: S) sh I J P Q := by
  intro p e s m args below meth c H locs ls A hC hR hA hS hL hx h1 h2
  have hl := cp_in_lt hs hi
  show W p (cp_l g) e (cp_rm d mc ms) s m args below meth c H locs cells slots _ (F0 m pc ls (.int i :: .ref (cp_a g a) :: S.map (cp_v g)))
  rw [cp_a_lt g (Nat.lt_of_lt_of_le hl hR.2)]
  exact va_lald hC.1 hC.2.1 hC.2.2.2.2.2.2.2.2.1.1 hR.1 a 2 (cp_e_2 hl hs) rfl hi hd (hk p e s m args below meth c H locs ls A hC hR hA hS hL hx h1 h2)
theorem r_iast {a n : Nat} {i x : Int32} (hs : cp_sh sh a = (0, n)) (hi : vp_in i n) (hd : decode y.2.1 pc = .ok (.iastore, 1)) (hk : RW g ex d mc ms y cells slots (pc + 1) L S sh (cp_u I a i.toNatClampNeg x) J P Q) : RW g ex d mc ms y cells slots pc L (.int x :: .int i :: .ref a :: S) sh I J P Q := by
  intro p e s m args below meth c H locs ls A hC hR hA hS hL hx h1 h2
  have hl := cp_in_lt hs hi
  show W p (cp_l g) e (cp_rm d mc ms) s m args below meth c H locs cells slots _ (F0 m pc ls (.int x :: .int i :: .ref (cp_a g a) :: S.map (cp_v g)))
  rw [cp_a_lt g (Nat.lt_of_lt_of_le hl hR.2)]
  refine va_iast hC.1 hC.2.1 hC.2.2.2.2.2.2.2.2.1.1 hR.1 (cp_Dof hA) hS a 0 (cp_e_0 hl hs) rfl hi hd (fun H1 locs1 hp _ hs1 => ?_)
  rw [cp_ws_set (I' := cp_u I a i.toNatClampNeg x) (J' := J) (P' := P) hl (by rw [hs, cp_u_i]; rfl) (fun b hb => cp_u_o I a _ x hb) (fun _ _ => rfl) (fun _ _ => rfl)] at hp
  exact hk p e s m args below meth c H1 locs1 ls A hC ⟨hp, hR.2⟩ hA hs1 hL hx h1 h2
theorem r_bast {a n : Nat} {i x : Int32} (hs : cp_sh sh a = (1, n)) (hi : vp_in i n) (hd : decode y.2.1 pc = .ok (.bastore, 1)) (hk : RW g ex d mc ms y cells slots (pc + 1) L S sh (cp_u I a i.toNatClampNeg x.toInt8.toInt32) J P Q) : RW g ex d mc ms y cells slots pc L (.int x :: .int i :: .ref a :: S) sh I J P Q := by
  intro p e s m args below meth c H locs ls A hC hR hA hS hL hx h1 h2
  have hl := cp_in_lt hs hi
  show W p (cp_l g) e (cp_rm d mc ms) s m args below meth c H locs cells slots _ (F0 m pc ls (.int x :: .int i :: .ref (cp_a g a) :: S.map (cp_v g)))
  rw [cp_a_lt g (Nat.lt_of_lt_of_le hl hR.2)]
  refine va_bast hC.1 hC.2.1 hC.2.2.2.2.2.2.2.2.1.1 hR.1 (cp_Dof hA) hS a 1 (cp_e_1 hl hs) rfl hi hd (fun H1 locs1 hp _ hs1 => ?_)
  rw [vp_nar_byte, cp_ws_set (I' := cp_u I a i.toNatClampNeg x.toInt8.toInt32) (J' := J) (P' := P) hl (by rw [hs, cp_u_i]; rfl) (fun b hb => cp_u_o I a _ _ hb) (fun _ _ => rfl) (fun _ _ => rfl)] at hp
  exact hk p e s m args below meth c H1 locs1 ls A hC ⟨hp, hR.2⟩ hA hs1 hL hx h1 h2
theorem r_last {a n : Nat} {i : Int32} {x : Int64} (hs : cp_sh sh a = (2, n)) (hi : vp_in i n) (hd : decode y.2.1 pc = .ok (.lastore, 1)) (hk : RW g ex d mc ms y cells slots (pc + 1) L S sh I (cp_u J a i.toNatClampNeg x) P Q) : RW g ex d mc ms y cells slots pc L (.long x :: .int i :: .ref a :: S) sh I J P Q := by
  intro p e s m args below meth c H locs ls A hC hR hA hS hL hx h1 h2
  have hl := cp_in_lt hs hi
  show W p (cp_l g) e (cp_rm d mc ms) s m args below meth c H locs cells slots _ (F0 m pc ls (.long x :: .int i :: .ref (cp_a g a) :: S.map (cp_v g)))
  rw [cp_a_lt g (Nat.lt_of_lt_of_le hl hR.2)]
  refine va_last hC.1 hC.2.1 hC.2.2.2.2.2.2.2.2.1.1 hR.1 (cp_Dof hA) hS a 2 (cp_e_2 hl hs) rfl hi hd (fun H1 locs1 hp _ hs1 => ?_)
  rw [cp_ws_set (I' := I) (J' := cp_u J a i.toNatClampNeg x) (P' := P) hl (by rw [hs, cp_u_l]; rfl) (fun _ _ => rfl) (fun b hb => cp_u_o J a _ x hb) (fun _ _ => rfl)] at hp
  exact hk p e s m args below meth c H1 locs1 ls A hC ⟨hp, hR.2⟩ hA hs1 hL hx h1 h2
theorem r_alen {a n cd : Nat} (hs : cp_sh sh a = (cd, n)) (hc : cd < 3) (h0 : (cd, n) ≠ (0, 0)) (hd : decode y.2.1 pc = .ok (.arraylength, 1)) (hk : RW g ex d mc ms y cells slots (pc + 1) L (.int (Int32.ofNat n) :: S) sh I J P Q) : RW g ex d mc ms y cells slots pc L (.ref a :: S) sh I J P Q := by
  intro p e s m args below meth c H locs ls A hC hR hA hS hL hx h1 h2
  have hl : a < sh.length := cp_sh_lt (by rw [hs]; exact h0)
  show W p (cp_l g) e (cp_rm d mc ms) s m args below meth c H locs cells slots _ (F0 m pc ls (.ref (cp_a g a) :: S.map (cp_v g)))
  rw [cp_a_lt g (Nat.lt_of_lt_of_le hl hR.2)]
  have k1 := hk p e s m args below meth c H locs ls A hC hR hA hS hL hx h1 h2
  rcases (show cd = 0 ∨ cd = 1 ∨ cd = 2 by omega) with rfl | rfl | rfl
  · exact va_alen hC.1 hC.2.1 hC.2.2.2.2.2.2.2.2.1.1 hR.1 a 0 (cp_e_0 hl hs) rfl rfl hd k1
  · exact va_alen hC.1 hC.2.1 hC.2.2.2.2.2.2.2.2.1.1 hR.1 a 1 (cp_e_1 hl hs) rfl rfl hd k1
  · exact va_alen hC.1 hC.2.1 hC.2.2.2.2.2.2.2.2.1.1 hR.1 a 2 (cp_e_2 hl hs) rfl rfl hd k1
theorem cp_a_999 (g : cp_G) : cp_a g 999 = (cp_sc g).1 := by unfold cp_a; rw [if_neg (by omega), if_pos rfl]
theorem r_sld {i : Int32} (hi : vp_in i (cp_sc g).2.1) (hd : decode y.2.1 pc = .ok (.iaload, 1)) (hk : RW g ex d mc ms y cells slots (pc + 1) L (.int ((cp_sc g).2.2 i.toNatClampNeg) :: S) sh I J P Q) : RW g ex d mc ms y cells slots pc L (.int i :: .ref 999 :: S) sh I J P Q := by
  intro p e s m args below meth c H locs ls A hC hR hA hS hL hx h1 h2
  show W p (cp_l g) e (cp_rm d mc ms) s m args below meth c H locs cells slots _ (F0 m pc ls (.int i :: .ref (cp_a g 999) :: S.map (cp_v g)))
  rw [cp_a_999]
  have hF := hC.2.2.2.2.2.2.2.2.1.2.1
  exact va_sld hC.1 hC.2.1 hF.1 hF.2.1 hF.2.2.1 hS hi hd (hk p e s m args below meth c H locs ls A hC hR hA hS hL hx h1 h2)
theorem r_slen (hd : decode y.2.1 pc = .ok (.arraylength, 1)) (hk : RW g ex d mc ms y cells slots (pc + 1) L (.int (Int32.ofNat (cp_sc g).2.1) :: S) sh I J P Q) : RW g ex d mc ms y cells slots pc L (.ref 999 :: S) sh I J P Q := by
  intro p e s m args below meth c H locs ls A hC hR hA hS hL hx h1 h2
  show W p (cp_l g) e (cp_rm d mc ms) s m args below meth c H locs cells slots _ (F0 m pc ls (.ref (cp_a g 999) :: S.map (cp_v g)))
  rw [cp_a_999]
  have hF := hC.2.2.2.2.2.2.2.2.1.2.1
  exact va_slen hC.1 hC.2.1 hF.1 hF.2.1 hF.2.2.1 hS hd (hk p e s m args below meth c H locs ls A hC hR hA hS hL hx h1 h2)
/-! RETURNS -/
theorem cp_Qf {Q' : cp_QT} {st t : State} {oc : Outcome} {A : Nat → Prop} {aa : Array Value} {ex' : Bool} (h : cp_Q g ex mc A Q aa st oc t) (hq : ∀ v sh I J P, Q v sh I J P → Q' v sh I J P) (hx : ex' = true → ex = true) : cp_Q g ex' mc A Q' aa st oc t := by
  obtain ⟨⟨v, sh, I, J, P, h1, h2, h3, h4, h5⟩, h6⟩ := h
  exact ⟨⟨v, sh, I, J, P, h1, hq v sh I J P h2, h3, h4, fun q => h5 (hx q)⟩, h6⟩
theorem cp_MQ_of {p : Program} {e : Env} {s : State} {m : MethodId} {args : Array Value} {below : List Frame} {meth : Method} {c : Code} {H : Heap} {locs : List Loc} {A : Nat → Prop} {R : Room} {g0 : JFrame} {k n : Nat} (h : W p (cp_l g) e R s m args below meth c H locs k n (MQ below (cp_Q g ex mc A (fun v sh I J P => (cp_k y = 1 → v ≠ none) ∧ Q v sh I J P)) args s mc ms A) g0) : W p (cp_l g) e R s m args below meth c H locs k n (cp_MQ g y ex mc ms A Q below args s) g0 := by
  intro T hT X
  obtain ⟨t, a1, o, b1, b2, b3, b4⟩ := h T hT X
  refine ⟨t, a1, ?_⟩
  unfold cp_MQ
  split
  · exact ⟨o, b1, b2, cp_Qf b3 (fun _ _ _ _ _ z => z.2) id, b4⟩
  · split
    · next h1 => exact ⟨o, b1, b2, Or.inl ⟨cp_Qf b3 (fun _ _ _ _ _ z => ⟨z.1 h1, z.2⟩) id, b4⟩⟩
    · exact ⟨o, b1, b2, cp_Qf b3 (fun _ _ _ _ _ z => z.2) (fun q => Bool.noConfusion q), b4⟩
theorem cp_k_s (hr : y.2.2.2 = none) : cp_k y ≠ 1 := by
  unfold cp_k
  rw [hr]
  intro h
  split at h
  · cases h
  · split at h
    · split at h
      · next q => exact absurd q.2 (by decide)
      · split at h <;> cases h
    · cases h
theorem cp_qed {p : Program} {s : State} {m : MethodId} {args : Array Value} {meth : Method} {c : Code} {H : Heap} {locs : List Loc} {A : Nat → Prop} {v : Option Value} (hq : Q v sh I J P) (hR : cp_R g sh I J P H) (hA : cp_Al g sh A) (hS : va_S A s.heap H locs) (hx : ex = true → s.heap.size + cells = cp_z g + sh.length) (hm : ex = true → cells = mc) :
    ∀ t : State, t.heap = H → s.WarmedH t.vm → cp_Q g ex mc A Q args s (.returned (v.map (cp_v g))) t := by
  intro t ht _
  exact ⟨⟨v, sh, I, J, P, rfl, hq, by rw [ht]; exact hR, hA, fun q => by rw [← hm q]; exact hx q⟩, hS.F ht⟩
theorem r_iret {x : Int32} {ty : FieldType} (hr : y.2.2.2 = some ty) (hn : narrow ty (.int x) = .int x) (hm : ex = true → cells = mc) (hd : decode y.2.1 pc = .ok (.ireturn, 1)) (hq : Q (some (.int x)) sh I J P) : RW g ex d mc ms y cells slots pc L [.int x] sh I J P Q := by
  intro p e s m args below meth c H locs ls A hC hR hA hS hL hx h1 h2
  refine W.widen h1 h2 ?_
  refine cp_MQ_of ?_
  exact W.zret (Qc := cp_Q g ex mc A (fun v sh I J P => (cp_k y = 1 → v ≠ none) ∧ Q v sh I J P)) hC.1 hC.2.1 (hC.2.2.1.trans hr) hn (cp_qed (Q := fun v sh I J P => (cp_k y = 1 → v ≠ none) ∧ Q v sh I J P) (v := some (.int x)) (p := p) (m := m) (meth := meth) (c := c) ⟨fun _ z => (by cases z), hq⟩ hR hA hS hx hm) hS.2.2 hd hC.2.2.2.2.2.2.1
theorem r_lret {x : Int64} (hr : y.2.2.2 = some .long) (hm : ex = true → cells = mc) (hd : decode y.2.1 pc = .ok (.lreturn, 1)) (hq : Q (some (.long x)) sh I J P) : RW g ex d mc ms y cells slots pc L [.long x] sh I J P Q := by
  intro p e s m args below meth c H locs ls A hC hR hA hS hL hx h1 h2
  refine W.widen h1 h2 ?_
  refine cp_MQ_of ?_
  exact W.lret (Qc := cp_Q g ex mc A (fun v sh I J P => (cp_k y = 1 → v ≠ none) ∧ Q v sh I J P)) hC.1 hC.2.1 (hC.2.2.1.trans hr) (cp_qed (Q := fun v sh I J P => (cp_k y = 1 → v ≠ none) ∧ Q v sh I J P) (v := some (.long x)) (p := p) (m := m) (meth := meth) (c := c) ⟨fun _ z => (by cases z), hq⟩ hR hA hS hx hm) hS.2.2 hd hC.2.2.2.2.2.2.1
theorem r_vret (hr : y.2.2.2 = none) (hm : ex = true → cells = mc) (hd : decode y.2.1 pc = .ok (.return_, 1)) (hq : Q none sh I J P) : RW g ex d mc ms y cells slots pc L [] sh I J P Q := by
  intro p e s m args below meth c H locs ls A hC hR hA hS hL hx h1 h2
  refine W.widen h1 h2 ?_
  refine cp_MQ_of ?_
  exact W.vret (Qc := cp_Q g ex mc A (fun v sh I J P => (cp_k y = 1 → v ≠ none) ∧ Q v sh I J P)) hC.1 hC.2.1 (hC.2.2.1.trans hr) (cp_qed (Q := fun v sh I J P => (cp_k y = 1 → v ≠ none) ∧ Q v sh I J P) (v := none) (p := p) (m := m) (meth := meth) (c := c) ⟨fun z => absurd z (cp_k_s hr), hq⟩ hR hA hS hx hm) hS.2.2 hd hC.2.2.2.2.2.2.1
end CpArr
