section Thr2
variable {g : cp_G} {d mc ms cells slots : Nat} {sh : cp_H} {I : cp_I} {J : cp_J} {P : cp_P} {Q : cp_QT} {L : cp_Lo}
set_option maxHeartbeats 1000000 in
theorem r_thr (hd : 6 ≤ d) (hst : (cp_l g).stackTraces = false) (hc : cells + 1 ≤ mc) (hs : slots + 6 ≤ ms) (hQ : Q none sh I J P) : RW g false d mc ms m_CP_led cells slots 15 L [] sh I J P Q := by
  intro p e s m args below meth c H locs ls A hC hR hA hS hL hx z1 z2
  unfold cp_MQ
  rw [if_neg (by rw [k_CP_led]; decide), if_pos k_CP_led]
  intro T hT X
  obtain ⟨hexec, hb, -, hml, hown, hts, hlk, hfr, hF, -, htb, -⟩ := hC
  have htab := htb k_CP_led
  have hpf : e.platform.magicAccessors = ({} : Platform).magicAccessors := by rw [X.admits.platform]
  have htr : e.platform.stackTraces = false := (show e.platform.stackTraces = (cp_l g).stackTraces by rw [X.admits.platform]).trans hst
  have hU := hF.2.2.2.2.2.2.2.1
  have hN := hF.2.2.2.2.2.2.2.2
  have hw := nx_all (args := args) hts hU hN
  have hwo : ∀ w ∈ nx_own, w.before args s = true := fun w h => hw w (List.mem_append_left _ h)
  -- the tables
  obtain ⟨Th, Z0, Lh, -, Y⟩ := ThrowableC.of_atoms (args := args) (s := s) (pl := e.platform) (by rw [X.admits.platform]) (by rw [X.admits.platform]) hpf (fun w h => hw w (by simp [nx_al, h]))
  obtain ⟨Z, M, LZ, LM, hnZ⟩ := Init0T.ofS_atoms (args := args) hpf Lh Y (fun w h => hw w (by simp [nx_al, h]))
  obtain ⟨P1, Lk1, hm1, hs1⟩ := PassC.ofS_atoms (args := args) (s := s) hpf (X := nx_E) (Y := nx_R) (index := 13) (bytes := prog_27_method_4_code) (by decide +kernel) (by decide) nx_d0 nx_d1 nx_d2 nx_d5 (fun w h => hw w (by simp [nx_al, h]))
  obtain ⟨P2, Ps, hlen, Lk2, hLk, hm2, hl2, hl3⟩ := Bundle.chainS (args := args) hpf hnZ [nx_X] nx_R (by decide +kernel) (by decide +kernel) (fun w h => hw w (by simp [nx_al, h]))
  have hlink1 : P1.sup = P2.m := Option.some.inj (hs1.symm.trans hm2)
  have hcE : s.vm.findClass nx_E = some P1.m.cls := findClass_of_methodNamed hm1
  -- 15: new
  obtain ⟨vm₁, cX, kX, hfX, hkX, hord, hkn, X₁, st1⟩ := X.newCold hexec (own := "ColdPlunge") (C := nx_E) (index := 349) (n := 6) hown (hts _ thr_k) (hwo _ (by simp [nx_own])) (hts _ thr_i)
    (g := F0 m 15 ls []) rfl (by rw [hb]; exact nx_e15) (by unfold cp_rm; exact hc) (by unfold cp_rm; exact hs)
  cases Option.some.inj (hfX.symm.trans hcE)
  generalize hT1 : (T.setVm vm₁).pushCell { cls := P1.m.cls, slots := kX.instanceTypes.map defaultValue, vm := .none } = T1 at X₁ st1
  have hh1 : T1.heap = T.heap.push (freshCell P1.m.cls kX) := by rw [← hT1]; rfl
  have hcellA : T1.heap[T.heap.size]? = some (freshCell P1.m.cls kX) := by rw [hh1]; simp
  -- 22: the call of the constructor
  obtain ⟨tm, methC, cdC, kC, vm₂, hnC, -, -, -, -, -, -, -, hW₂, st4⟩ := Steps.initColdS (tb := p.tables) (e := e) (below := below) (s := s) (U := T1) X₁.here hexec X₁.warmed hpf (own := "ColdPlunge") hown (idx := 353) (t := Bundle.initS nx_E) rfl rfl (by decide)
    (args := args) (hwo _ (by simp [nx_own])) (bytes := prog_27_method_4_code) (maxL := 2) (hw (.instanceMethod (Bundle.initS nx_E)) (by simp [nx_al, Bundle.passSAtoms])) (hw (.code (Bundle.initS nx_E) prog_27_method_4_code 2 none) (by simp [nx_al, Bundle.passSAtoms]))
    (f := { method := m, pc := 22, locals := ls, stack := .ref (cp_kK g 20) :: .ref T.heap.size :: .ref T.heap.size :: [], locked := none }) rfl (a := T.heap.size) (msg := .ref (cp_kK g 20)) (rest := [.ref T.heap.size]) rfl (by rw [hb]; exact nx_e22)
  cases Option.some.inj (hnC.symm.trans hm1)
  have X₂ := X₁.noted hW₂
  -- the statics
  obtain ⟨cellS, hcS, hiS, hnA⟩ := nx_stat hU.2 Y.unassigned Lh.statics
  obtain ⟨u0, hu0⟩ := Cond.staticRefV (args := args) Y.unassigned Lh.unassignedStatic Lh.statics hcS hiS (vx_isRefq hU.1)
  obtain ⟨sen, hsen⟩ := Cond.staticRefV (args := args) Y.sentinel Lh.sentinelStatic Lh.statics hcS hiS (vx_isRefq hN.1)
  have hltS : Th.aS < s.heap.size := (Array.getElem?_eq_some_iff.mp hcS).1
  have hszT : s.heap.size ≤ T.heap.size := by rw [hT]; exact hS.1
  have hneS : Th.aS ≠ T.heap.size := Nat.ne_of_lt (Nat.lt_of_lt_of_le hltS hszT)
  have hcS1 : T1.heap[Th.aS]? = some cellS := by
    rw [hh1, Array.getElem?_push, if_neg hneS, hT, hS.2.1 _ hltS hnA]
    exact hcS
  have hkS : cellS.vm ≠ .unknown := fun q => by rw [q] at hiS; cases hiS
  -- the fields
  obtain ⟨ci, ib, fB, b1, b2, b3, b4, -, b5, b6, b7⟩ := Cond.ownField (args := args) (t := .object "java/lang/Object") Y.found Lh.cls (by decide +kernel) (hwo (.fieldLink Bundle.tN 198 Bundle.tN "backtrace" "Ljava/lang/Object;") (by simp [nx_own])) (hwo (.lays Bundle.tN Bundle.tN "backtrace" "Ljava/lang/Object;") (by simp [nx_own])) e.platform hpf
  obtain ⟨iM, hffM⟩ := Y.msg
  obtain ⟨tC, dC, eC, nC⟩ := Cond.laysAt (args := args) hcE hkX Y.cause (hwo (.lays nx_E Bundle.tN "cause" "Ljava/lang/Throwable;") (by simp [nx_own]))
  obtain ⟨tS, dS, eS, nS⟩ := Cond.laysAt (args := args) hcE hkX Y.stack (hwo (.lays nx_E Bundle.tN "stackTrace" Bundle.steD) (by simp [nx_own]))
  obtain ⟨tP, dP, eP, nP⟩ := Cond.laysAt (args := args) hcE hkX Y.supp (hwo (.lays nx_E Bundle.tN "suppressedExceptions" Bundle.listD) (by simp [nx_own]))
  obtain ⟨tM, -⟩ := Cond.laysAt (args := args) hcE hkX hffM (hwo (.lays nx_E Bundle.tN "detailMessage" "Ljava/lang/String;") (by simp [nx_own]))
  obtain ⟨tB, dB, eB, nB⟩ := Cond.laysAt (args := args) hcE hkX b7 (hwo (.lays nx_E Bundle.tN "backtrace" "Ljava/lang/Object;") (by simp [nx_own]))
  have aC := Cond.laysApart eB eC nB nC (by rw [b5, Y.causeName]; decide)
  have aS := Cond.laysApart eB eS nB nS (by rw [b5, Y.stackName]; decide)
  have aP := Cond.laysApart eB eP nB nP (by rw [b5, Y.suppName]; decide)
  have hnull : ((preparedCellV Th.toThrowableT (freshCell P1.m.cls kX) T.heap.size u0 sen).withEntry (T1.setVm vm₂).cur).slots[fB.slot]? = some .null := by
    have q := fresh_default (c := P1.m.cls) tB
    rw [b6] at q
    simpa [preparedCellV, Cell.setSlot, Cell.withEntry, Array.getElem?_setIfInBounds, aC, aS, aP, aC.symm, aS.symm, aP.symm, defaultValue] using q
  -- the constructors
  obtain ⟨vm₃, X₃, st5⟩ := X₂.ctorMessageOffV hexec (g := { method := m, pc := 22, locals := ls, stack := [.ref T.heap.size], locked := none }) rfl (hL.1.trans hml.symm) Th Lh Z LZ M LM (P1 :: P2 :: Ps)
    (fun x hx => by
      rcases List.mem_cons.mp hx with rfl | hx
      · exact Lk1
      · rcases List.mem_cons.mp hx with rfl | hx
        · exact Lk2
        · exact hLk x hx) ⟨hlink1, hl2, hl3⟩ (u0 := u0) (sen := sen) (self := T.heap.size) (msg := .ref (cp_kK g 20)) rfl (cell := freshCell P1.m.cls kX) (cellS := cellS)
    hcellA (fun _ => by simp) (by simp) rfl rfl (nx_sel X (hwo (.selects nx_E Bundle.tFill0 Bundle.tFill0) (by simp [nx_own])) hcE Y.fill0 (by decide)) (nx_sel X (hwo (.selects nx_E Bundle.tFill Bundle.tFill) (by simp [nx_own])) hcE Y.fill (by decide))
    hcS1 hneS hkS hu0 hsen (Takes.of_laid hkX hord tC (by rw [Y.causeType]; rfl)) (Takes.of_laid hkX hord tS (by rw [Y.stackType]; exact fits_refV_array _ u0)) (Takes.of_laid hkX hord tP (by rw [Y.suppType]; exact fits_refV_object _ sen))
    (Takes.of_laid hkX hord tM (by rw [Y.msgType]; rfl)) Y.objLocals ⟨⟨ci, ib, fB⟩, ⟨b1, b2, b3, b4⟩, hnull, fun _ _ => rfl⟩ htr [] (by rw [hb]; exact nx_e22)
    (by simp only [List.length_cons, hlen, List.length_nil]; show 5 < d; omega) (by simp only [List.length_cons, hlen, List.length_nil]; show 2 * 0 + 1 + 81 ≤ 40 * d; omega)
  -- 25: athrow
  obtain ⟨hwalk, hrun, hend, hWU, hsame⟩ := X₃.athrowLeaves hexec (g := { method := m, pc := 25, locals := ls, stack := [.ref T.heap.size], locked := none }) rfl rfl rfl (fun x hx => by rw [htab] at hx; cases hx) (a := T.heap.size) (rest := []) rfl (by rw [hb]; exact nx_e25) hlk
  generalize hce : plainBareV Th.toThrowableT (freshCell P1.m.cls kX) T.heap.size u0 sen (.ref (cp_kK g 20)) = ce at X₃ st5 hwalk hrun hend hWU hsame
  have hcv : ce.vm = .none := by rw [← hce]; rfl
  have hcc : ce.cls = P1.m.cls := by rw [← hce]; rfl
  have hlt : T.heap.size < ((T1.setVm vm₂).setVm vm₃).heap.size := (Array.getElem?_eq_some_iff.mp hcellA).1
  generalize hUU : ((((T1.setVm vm₂).setVm vm₃).setCell T.heap.size ce).setFrames (.throwing T.heap.size :: below)) = UU at hwalk hrun hend hWU hsame
  have hUh : UU.heap = T1.heap.setIfInBounds T.heap.size ce := by rw [← hUU]; rfl
  have hUsz : UU.heap.size = T.heap.size + 1 := by rw [hUh, hh1]; simp
  have hUk : ∀ q : Nat, q < H.size → UU.heap[q]? = H[q]? := by
    intro q hq
    rw [← hT] at hq
    rw [hUh, Array.getElem?_setIfInBounds_ne (by omega), hh1, Array.getElem?_push, if_neg (by omega), hT]
  have hUa : UU.heap[T.heap.size]? = some ce := by
    rw [hUh]
    exact Array.getElem?_setIfInBounds_self_of_lt hlt
  refine ⟨UU, st1 _ ?_, .threw T.heap.size, hrun, hend, Or.inr ⟨T.heap.size, rfl, nx_E, ce, _, ⟨rfl, ⟨sh, I, J, P, hQ, cp_R_kept hR hUk, hA⟩, ?_, fun q h1 h2 => ?_⟩, hUa, hcv, by rw [hcc]; exact hcE, hWU, hsame.mono hc hs, ?_⟩⟩
  · -- the walk
    show Steps p.tables e below (T1.setTop { method := m, pc := 18, locals := ls, stack := .ref T.heap.size :: [], locked := none }) _
    have e18 : decode c.code 18 = .ok (.dup, 1) := by rw [hb]; exact nx_e18
    jvm_step X₁.here [X₁.here.top, hexec, e18, Value.category]
    have hstr := hF.2.2.2.2.1 _ thr_s
    refine X₁.ldcStringW hexec (own := "ColdPlunge") (text := "no such bather who is in and doesn't bear it") (index := 351) (a := cp_kK g 20) hown hstr.1 hstr.2
      (g := { method := m, pc := 19, locals := ls, stack := .ref T.heap.size :: .ref T.heap.size :: [], locked := none }) rfl (by rw [hb]; exact nx_e19) _ ?_
    refine st4 _ (fun acts => ?_)
    rw [doInvoke_state]
    exact st5 _ hwalk
  · omega
  · rw [hUk q (Nat.lt_of_lt_of_le h1 hS.1)]
    exact hS.2.1 q h1 h2
  · intro z hz
    rcases List.mem_append.mp hz with h | h
    · exact hS.2.2 z h
    · apply hfr
      simp only [List.mem_cons, List.not_mem_nil, or_false] at h
      rcases h with rfl | rfl | rfl | rfl | rfl <;> exact hszT
end Thr2
