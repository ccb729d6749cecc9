/-- the arguments off the stack, the first one first -/
def cp_pop : Nat → List Value → List Value → Option (List Value × List Value)
  | 0, acc, S => some (acc, S)
  | n + 1, acc, v :: S => cp_pop n (v :: acc) S
  | _ + 1, _, [] => none
theorem cp_pop_spec : ∀ (n : Nat) (acc S as rest : List Value), cp_pop n acc S = some (as, rest) → ∃ p : List Value, as = p ++ acc ∧ S = p.reverse ++ rest ∧ p.length = n
  | 0, acc, S, as, rest, h => by cases h; exact ⟨[], rfl, rfl, rfl⟩
  | n + 1, acc, v :: S, as, rest, h => by
    obtain ⟨p, h1, h2, h3⟩ := cp_pop_spec n (v :: acc) S as rest h
    refine ⟨p ++ [v], by rw [h1]; simp, by rw [h2]; simp, by simp [h3]⟩
  | _ + 1, _, [], _, _, h => by cases h
theorem cp_pop0 {n : Nat} {S as rest : List Value} (h : cp_pop n [] S = some (as, rest)) : S = as.reverse ++ rest ∧ as.length = n := by
  obtain ⟨p, h1, h2, h3⟩ := cp_pop_spec n [] S as rest h
  rw [List.append_nil] at h1
  subst h1
  exact ⟨h2, h3⟩
section CpCalls
variable {g : cp_G} {ex : Bool} {d mc ms : Nat} {y : cp_M} {cells slots pc : Nat} {L : cp_Lo} {S : List Value} {sh : cp_H} {I : cp_I} {J : cp_J} {P : cp_P} {Q : cp_QT}
theorem cp_room {rest : List Value} (h : rest.length ≤ 4) {m : MethodId} {ls : Array Slot} {st : List Value} : 2 * (F0 m pc ls st).monitorRoom + ((rest.map (cp_v g)).map fun v => v.category).sum ≤ 8 := by
  refine lv_room ?_
  have key : ∀ l : List Value, ((l.map (cp_v g)).map fun v => v.category).sum ≤ 2 * l.length := by
    intro l
    induction l with
    | nil => simp
    | cons v l ih =>
      rw [List.map_cons, List.map_cons, List.sum_cons, List.length_cons, cp_cat]
      rcases lv_cat v with q | q <;> omega
  have := key rest
  omega
theorem cp_free {s : State} {H : Heap} {locs : List Loc} {A : Nat → Prop} (hA : cp_Al g sh A) (hS : va_S A s.heap H locs) (hq : ∀ q, s.heap.size ≤ q → A q) : ∀ q, va_A (cp_ws g sh I J P) H.size q → A q := by
  intro q h
  rcases h with ⟨k, e, h⟩ | h
  · obtain ⟨h1, h2⟩ := cp_ws_inv h
    have h2 : q = cp_z g + k := h2
    rw [h2]
    exact hA k h1
  · exact hq q (Nat.le_trans hS.1 h)
theorem cp_blind {hs : Nat} {as : List Value} : FrameBlind (va_Pc (as.map (cp_v g)) (fun U => U.heap.size = hs ∧ cp_R g sh I J P U.heap ∧ cp_F g (va_A (cp_ws g sh I J P) hs) U ∧ (ex = true → hs = cp_z g + sh.length))) := by
  rintro a U f mk ⟨h1, h2, h3, h4, h5⟩
  exact ⟨h1, h2, h3, h4.same rfl rfl, h5⟩
theorem cp_pre {s : State} {H : Heap} {locs : List Loc} {A : Nat → Prop} {as : List Value} (hR : cp_R g sh I J P H) (hA : cp_Al g sh A) (hS : va_S A s.heap H locs) (hq : ∀ q, s.heap.size ≤ q → A q) (hF : cp_F g A s) (hx : ex = true → H.size = cp_z g + sh.length) :
    ∀ U : State, U.heap = H → s.WarmedH U.vm → va_Pc (as.map (cp_v g)) (fun U => U.heap.size = H.size ∧ cp_R g sh I J P U.heap ∧ cp_F g (va_A (cp_ws g sh I J P) H.size) U ∧ (ex = true → H.size = cp_z g + sh.length)) (as.map (cp_v g)).toArray U := by
  intro U hU hW
  refine ⟨rfl, by rw [hU], by rw [hU]; exact hR, ?_, hx⟩
  exact hF.warm (locs := locs) hW (by rw [hU]; exact hS) (cp_free hA hS hq)
theorem cp_exact {p : Program} {e : Env} {R : Room} {s : State} {m : MethodId} {args : Array Value} {below : List Frame} {meth : Method} {c : Code} {T : State} {H : Heap} {locs : List Loc} {A : Nat → Prop} (hT : T.heap = H) (X : Stand p (cp_l g) e R s m args below meth c T locs cells slots) (hR : cp_R g sh I J P H) (hS : va_S A s.heap H locs) (hz : cp_z g ≤ s.heap.size) (hx : ex = true → s.heap.size + cells = cp_z g + sh.length) : ex = true → H.size = cp_z g + sh.length := by
  intro q
  have h1 := hx q
  have h2 : T.heap.size ≤ s.heap.size + cells := X.same.2.2.1
  rw [hT] at h2
  have h3 := hS.1
  rcases Nat.eq_zero_or_pos sh.length with z | z
  · omega
  · have h4 := cp_R_lt hR (a := sh.length - 1) (by omega)
    omega
theorem cp_after {p : Program} {e : Env} {s : State} {m : MethodId} {args : Array Value} {below : List Frame} {meth : Method} {c : Code} {T : State} {H : Heap} {locs : List Loc} {ls : Array Slot} {A : Nat → Prop} {st0 rest : List Value} {mcC msC : Nat} {aa : Array Value} {Q1 : cp_QT}
    (hr : va_Run p (cp_l g) e (cp_rm d mc ms) s m args below meth c H locs cells slots mcC msC (F0 m pc ls st0) (rest.map (cp_v g)) (cp_Q g ex mcC (va_A (cp_ws g sh I J P) H.size) Q1 aa) (va_A (cp_ws g sh I J P) H.size))
    (hC : cp_C g y p s m args meth c A) (hA : cp_Al g sh A) (hS : va_S A s.heap H locs) (hL : cp_L g ls y.2.2.1 L) (hHx : ex = true → H.size = cp_z g + sh.length) (hx : ex = true → s.heap.size + cells = cp_z g + sh.length) (h1 : cells + mcC ≤ mc) (h2 : slots + msC ≤ ms)
    (hk : ∀ v sh' I' J' P', Q1 v sh' I' J' P' → RW g ex d mc ms y (cells + mcC) (slots + msC) (pc + 3) L (v.toList ++ rest) sh' I' J' P' Q)
    (hT : T.heap = H) (X : Stand p (cp_l g) e (cp_rm d mc ms) s m args below meth c T locs cells slots) : ∃ t, Steps p.tables e below (T.setTop (F0 m pc ls st0)) t ∧ cp_MQ g y ex mc ms A Q below args s t := by
  obtain ⟨v, st₀, t, T', Lq, h0, X', hLq, e1, e2, ⟨⟨v', sh', I', J', P', hv, hq, hR', hA', hx'⟩, hz, hkp⟩, st⟩ := hr T hT X
  cases hv
  rw [h0] at hz hkp hx'
  have hF := cp_free (I := I) (J := J) (P := P) hA hS hC.2.2.2.2.2.2.2.1
  have hS' : va_S A s.heap T'.heap (locs ++ Lq) := by
    refine ⟨Nat.le_trans hS.1 (by rw [e1]; exact hz), fun q g1 g2 => ?_, fun q hq => ?_⟩
    · rw [e1, hkp q (Nat.lt_of_lt_of_le g1 hS.1) (fun z => g2 (hF q z))]
      exact hS.2.1 q g1 g2
    · rcases List.mem_append.mp hq with h | h
      · exact hS.2.2 q h
      · exact hF _ (hLq q h)
  obtain ⟨t2, a1, b1⟩ := hk v' sh' I' J' P' hq p e s m args below meth c T'.heap (locs ++ Lq) ls A hC (by rw [e1]; exact hR') (fun a ha => hF _ (hA' a ha)) hS' hL (fun q => by have := hx' q; have := hHx q; have := hx q; omega) h1 h2 T' rfl X'
  refine ⟨t2, st t2 ?_, b1⟩
  have he : (v'.toList ++ rest).map (cp_v g) = (v'.map (cp_v g)).toList ++ rest.map (cp_v g) := by cases v' <;> rfl
  rw [he] at a1
  exact a1
theorem cp_fixR {dC : Nat} {y' : cp_M} (hd : dC + 1 ≤ d) (hok : cp_ok y') (mcC msC : Nat) : (cp_rm dC mcC msC).frames + 1 ≤ (cp_rm d mc ms).frames ∧ 8 + (y'.2.2.1 + 11) + (cp_rm dC mcC msC).locals ≤ (cp_rm d mc ms).locals := by
  have := hok.2.2.2.2
  unfold cp_rm
  dsimp only
  omega
variable {cal : cp_M} {ix n mcC msC dC : Nat} {as rest : List Value} {Q1 : cp_QT}
theorem cp_cb {p : Program} {s : State} {m : MethodId} {args : Array Value} {meth : Method} {c : Code} {A : Nat → Prop} (hC : cp_C g y p s m args meth c A) (hok : cp_ok cal) (hw : Jvm.Cond.methodLink y.1.cls ix cal.1 ∈ cp_WT) (hds : (parseMethodDescriptor cal.1.desc).map (fun d => d.parameters.length) = some n) (hdd : dC + 1 ≤ d) :
    CallB (cp_rm d mc ms) s args y.1.cls ix cal.1 cal.2.1 cal.2.2.1 cal.2.2.2 (cp_wsM cal) (cp_rm dC mcC msC) mcC msC n :=
  callB_of n hC.2.2.2.2.2.1 (cp_GI hok) rfl rfl rfl (cp_wd hC hok.2.1) (cp_wd hC hw) ⟨hok.2.2.2.1.1, hok.2.2.2.1.2, hds⟩ (cp_fixR hdd hok mcC msC)
theorem r_callV {b ci N : Nat} {C : String} {T : u_T} (hM : MW g ex dC mcC msC cal (.ref b :: as) sh I J P Q1) (hdd : dC + 1 ≤ d) (hc : vwCl[ci]? = some (C, T, N)) (hs : cp_sh sh b = (ci + 3, N)) (hw : Jvm.Cond.methodLink y.1.cls ix cal.1 ∈ cp_WT) (hwi : Jvm.Cond.instanceMethod cal.1 ∈ cp_WT) (hws : Jvm.Cond.selects C cal.1 cal.1 ∈ cp_WT)
    (hds : (parseMethodDescriptor cal.1.desc).map (fun d => d.parameters.length) = some n) (hn : as.length = n) (hre : rest.length ≤ 4) (h1 : cells + mcC ≤ mc) (h2 : slots + msC ≤ ms) (hd : decode y.2.1 pc = .ok (.invokevirtual ix, 3))
    (hk : ∀ v sh' I' J' P', Q1 v sh' I' J' P' → RW g ex d mc ms y (cells + mcC) (slots + msC) (pc + 3) L (v.toList ++ rest) sh' I' J' P' Q) : RW g ex d mc ms y cells slots pc L (as.reverse ++ .ref b :: rest) sh I J P Q := by
  intro p e s m args below meth c H locs ls A hC hR hA hS hL hx z1 z2 TT hT X
  obtain ⟨hok, hM⟩ := hM
  have hHx := cp_exact hT X hR hS hC.2.2.2.2.2.2.2.2.1.2.1.2.2.2 hx
  have hl : b < sh.length := cp_sh_lt (by rw [hs]; exact fun h => by cases h)
  have hab := cp_a_lt g (Nat.lt_of_lt_of_le hl hR.2)
  refine cp_after (va_runV (C := C) (b := cp_a g b) (As := as.map (cp_v g)) (Ts := cp_WT) (n := n) ⟨hC.1, hC.2.1, hC.2.2.2.1, hC.2.2.2.2.1, hC.2.2.2.2.2.1⟩ (hM H.size) ⟨cp_cb hC hok hw hds hdd, cp_wd hC hwi, cp_wd hC hws⟩ ⟨cp_blind, ?_, cp_pre (as := .ref b :: as) hR hA hS hC.2.2.2.2.2.2.2.1 hC.2.2.2.2.2.2.2.2.1 hHx⟩ rfl (by rw [List.length_map]; exact hn) hL.1 ?_ (cp_room hre) hd ⟨h1, h2⟩) hC hA hS hL hHx hx h1 h2 hk hT X
  · rw [hab]
    exact va_recv hC.2.2.2.2.2.2.2.2.1.1 hR.1 hc (cp_e_obj hs)
  · show (as.reverse ++ .ref b :: rest).map (cp_v g) = _
    rw [List.map_append, List.map_reverse]
    rfl
theorem r_callS (hM : MW g ex dC mcC msC cal as sh I J P Q1) (hdd : dC + 1 ≤ d) (hw : Jvm.Cond.methodLink y.1.cls ix cal.1 ∈ cp_WT) (hwi : Jvm.Cond.static cal.1 ∈ cp_WT)
    (hds : (parseMethodDescriptor cal.1.desc).map (fun d => d.parameters.length) = some n) (hn : as.length = n) (hre : rest.length ≤ 4) (h1 : cells + mcC ≤ mc) (h2 : slots + msC ≤ ms) (hd : decode y.2.1 pc = .ok (.invokestatic ix, 3))
    (hk : ∀ v sh' I' J' P', Q1 v sh' I' J' P' → RW g ex d mc ms y (cells + mcC) (slots + msC) (pc + 3) L (v.toList ++ rest) sh' I' J' P' Q) : RW g ex d mc ms y cells slots pc L (as.reverse ++ rest) sh I J P Q := by
  intro p e s m args below meth c H locs ls A hC hR hA hS hL hx z1 z2 TT hT X
  obtain ⟨hok, hM⟩ := hM
  have hHx := cp_exact hT X hR hS hC.2.2.2.2.2.2.2.2.1.2.1.2.2.2 hx
  refine cp_after (va_runS (As := as.map (cp_v g)) (Ts := cp_WT) (n := n) ⟨hC.1, hC.2.1, hC.2.2.2.1, hC.2.2.2.2.1, hC.2.2.2.2.2.1⟩ (hM H.size) ⟨cp_cb hC hok hw hds hdd, cp_wd hC hwi⟩ ⟨cp_blind, cp_pre hR hA hS hC.2.2.2.2.2.2.2.1 hC.2.2.2.2.2.2.2.2.1 hHx⟩ rfl (by rw [List.length_map]; exact hn) hL.1 ?_ (cp_room hre) hd ⟨h1, h2⟩) hC hA hS hL hHx hx h1 h2 hk hT X
  show (as.reverse ++ rest).map (cp_v g) = _
  rw [List.map_append, List.map_reverse]
theorem r_callSN {host : String} (hM : MW g ex dC mcC msC cal as sh I J P Q1) (hdd : dC + 1 ≤ d) (hw : Jvm.Cond.methodLinkNest y.1.cls ix cal.1 host ∈ cp_nest) (hwi : Jvm.Cond.static cal.1 ∈ cp_WT)
    (hds : (parseMethodDescriptor cal.1.desc).map (fun d => d.parameters.length) = some n) (hn : as.length = n) (hre : rest.length ≤ 4) (h1 : cells + mcC ≤ mc) (h2 : slots + msC ≤ ms) (hd : decode y.2.1 pc = .ok (.invokestatic ix, 3))
    (hk : ∀ v sh' I' J' P', Q1 v sh' I' J' P' → RW g ex d mc ms y (cells + mcC) (slots + msC) (pc + 3) L (v.toList ++ rest) sh' I' J' P' Q) : RW g ex d mc ms y cells slots pc L (as.reverse ++ rest) sh I J P Q := by
  intro p e s m args below meth c H locs ls A hC hR hA hS hL hx z1 z2 TT hT X
  obtain ⟨hok, hM⟩ := hM
  have hHx := cp_exact hT X hR hS hC.2.2.2.2.2.2.2.2.1.2.1.2.2.2 hx
  have hF := hC.2.2.2.2.2.2.2.2.1
  refine cp_after (va_runSN (host := host) (As := as.map (cp_v g)) (Ts := cp_WT) (n := n) ⟨hC.1, hC.2.1, hC.2.2.2.1, hC.2.2.2.2.1, hC.2.2.2.2.2.1⟩ (hM H.size) ⟨va_cnB n hC.2.2.2.2.2.1 (cp_GI hok) rfl rfl rfl (hF.2.2.1 _ hw) (cp_wd hC hok.2.1) ⟨hok.2.2.2.1.1, hok.2.2.2.1.2, hds⟩ (cp_fixR hdd hok mcC msC), cp_wd hC hwi, trivial⟩ ⟨cp_blind, cp_pre hR hA hS hC.2.2.2.2.2.2.2.1 hF hHx⟩ rfl (by rw [List.length_map]; exact hn) hL.1 ?_ (cp_room hre) hd ⟨h1, h2⟩) hC hA hS hL hHx hx h1 h2 hk hT X
  show (as.reverse ++ rest).map (cp_v g) = _
  rw [List.map_append, List.map_reverse]
theorem r_callI {b : Nat} (hM : MW g ex dC mcC msC cal (.ref b :: as) sh I J P Q1) (hdd : dC + 1 ≤ d) (hnm : cal.1.name = "<init>") (hrt : cal.2.2.2 = none) (hw : Jvm.Cond.methodLink y.1.cls ix cal.1 ∈ cp_WT) (hwi : Jvm.Cond.instanceMethod cal.1 ∈ cp_WT)
    (hds : (parseMethodDescriptor cal.1.desc).map (fun d => d.parameters.length) = some n) (hn : as.length = n) (hre : rest.length ≤ 4) (h1 : cells + mcC ≤ mc) (h2 : slots + msC ≤ ms) (hd : decode y.2.1 pc = .ok (.invokespecial ix, 3))
    (hk : ∀ v sh' I' J' P', Q1 v sh' I' J' P' → RW g ex d mc ms y (cells + mcC) (slots + msC) (pc + 3) L (v.toList ++ rest) sh' I' J' P' Q) : RW g ex d mc ms y cells slots pc L (as.reverse ++ .ref b :: rest) sh I J P Q := by
  intro p e s m args below meth c H locs ls A hC hR hA hS hL hx z1 z2 TT hT X
  obtain ⟨hok, hM⟩ := hM
  have hHx := cp_exact hT X hR hS hC.2.2.2.2.2.2.2.2.1.2.1.2.2.2 hx
  have hcb := cp_cb (mc := mc) (ms := ms) (mcC := mcC) (msC := msC) hC hok hw hds hdd
  rw [hrt] at hcb
  refine cp_after (va_runI (b := cp_a g b) (As := as.map (cp_v g)) (Ts := cp_WT) (n := n) ⟨hC.1, hC.2.1, hC.2.2.2.1, hC.2.2.2.2.1, hC.2.2.2.2.2.1⟩ (hM H.size) ⟨hcb, hnm, cp_wd hC hwi⟩ ⟨cp_blind, cp_pre (as := .ref b :: as) hR hA hS hC.2.2.2.2.2.2.2.1 hC.2.2.2.2.2.2.2.2.1 hHx⟩ rfl (by rw [List.length_map]; exact hn) hL.1 ?_ (cp_room hre) hd ⟨h1, h2⟩) hC hA hS hL hHx hx h1 h2 hk hT X
  show (as.reverse ++ .ref b :: rest).map (cp_v g) = _
  rw [List.map_append, List.map_reverse]
  rfl
theorem r_callIN {b : Nat} {host : String} (hM : MW g ex dC mcC msC cal (.ref b :: as) sh I J P Q1) (hdd : dC + 1 ≤ d) (hnm : cal.1.name = "<init>") (hrt : cal.2.2.2 = none) (hw : Jvm.Cond.methodLinkNest y.1.cls ix cal.1 host ∈ cp_nest) (hwi : Jvm.Cond.instanceMethod cal.1 ∈ cp_WT)
    (hds : (parseMethodDescriptor cal.1.desc).map (fun d => d.parameters.length) = some n) (hn : as.length = n) (hre : rest.length ≤ 4) (h1 : cells + mcC ≤ mc) (h2 : slots + msC ≤ ms) (hd : decode y.2.1 pc = .ok (.invokespecial ix, 3))
    (hk : ∀ v sh' I' J' P', Q1 v sh' I' J' P' → RW g ex d mc ms y (cells + mcC) (slots + msC) (pc + 3) L (v.toList ++ rest) sh' I' J' P' Q) : RW g ex d mc ms y cells slots pc L (as.reverse ++ .ref b :: rest) sh I J P Q := by
  intro p e s m args below meth c H locs ls A hC hR hA hS hL hx z1 z2 TT hT X
  obtain ⟨hok, hM⟩ := hM
  have hHx := cp_exact hT X hR hS hC.2.2.2.2.2.2.2.2.1.2.1.2.2.2 hx
  have hF := hC.2.2.2.2.2.2.2.2.1
  have hcb := va_cnB (R := cp_rm d mc ms) (s := s) (args := args) n hC.2.2.2.2.2.1 (cp_GI hok) rfl (rm := cp_rm dC mcC msC) (mc := mcC) (ms := msC) rfl rfl (hF.2.2.1 _ hw) (cp_wd hC hok.2.1) ⟨hok.2.2.2.1.1, hok.2.2.2.1.2, hds⟩ (cp_fixR hdd hok mcC msC)
  rw [hrt] at hcb
  refine cp_after (va_runIN (host := host) (b := cp_a g b) (As := as.map (cp_v g)) (Ts := cp_WT) (n := n) ⟨hC.1, hC.2.1, hC.2.2.2.1, hC.2.2.2.2.1, hC.2.2.2.2.2.1⟩ (hM H.size) ⟨hcb, hnm, cp_wd hC hwi⟩ ⟨cp_blind, cp_pre (as := .ref b :: as) hR hA hS hC.2.2.2.2.2.2.2.1 hF hHx⟩ rfl (by rw [List.length_map]; exact hn) hL.1 ?_ (cp_room hre) hd ⟨h1, h2⟩) hC hA hS hL hHx hx h1 h2 hk hT X
  show (as.reverse ++ .ref b :: rest).map (cp_v g) = _
  rw [List.map_append, List.map_reverse]
  rfl
end CpCalls
