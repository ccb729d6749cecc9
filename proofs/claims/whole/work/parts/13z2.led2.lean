section Led2
variable {g : cp_G} {ex : Bool} {d dC mc ms cells slots : Nat} {y : cp_M} {as rest : List Value} {sh : cp_H} {I : cp_I} {J : cp_J} {P : cp_P} {Q Q1 : cp_QT} {L : cp_Lo}
theorem cl_w1 : Jvm.Cond.methodLink m_Law_led.1.cls 7 m_CP_led.1 ∈ cp_WT := List.mem_filter.mpr ⟨List.mem_of_getElem? (i := 1307) (by decide +kernel), by decide +kernel⟩
theorem cl_w2 : Jvm.Cond.instanceMethod m_CP_led.1 ∈ cp_WT := List.mem_filter.mpr ⟨List.mem_of_getElem? (i := 1308) (by decide +kernel), by decide +kernel⟩
theorem cl_w3 : Jvm.Cond.selects RX10 m_CP_led.1 m_CP_led.1 ∈ cp_WT := List.mem_filter.mpr ⟨List.mem_of_getElem? (i := 1309) (by decide +kernel), by decide +kernel⟩
theorem cl_w4 : Jvm.Cond.classLink "ColdPlungeLaw" 13 "java/util/NoSuchElementException" ∈ cp_WT := List.mem_filter.mpr ⟨by decide +kernel, by decide +kernel⟩
/-- the contract of the method that catches -/
def cp_wsL : List Jvm.Cond := Jvm.Cond.codeWith m_Law_led.1 m_Law_led.2.1 4 (some .int) [(0, 9, 12, 13)] :: cp_WT
def ML (g : cp_G) (d mc ms : Nat) (as : List Value) (sh : cp_H) (I : cp_I) (J : cp_J) (P : cp_P) (Q : cp_QT) : Prop :=
  ∀ hs : Nat, Met (cp_l g) m_Law_led.1 cp_wsL (cp_rm d mc ms) (va_Pc (as.map (cp_v g)) (fun U => U.heap.size = hs ∧ cp_R g sh I J P U.heap ∧ cp_F g (va_A (cp_ws g sh I J P) hs) U ∧ (false = true → hs = cp_z g + sh.length)))
    (cp_Q g false mc (va_A (cp_ws g sh I J P) hs) Q) mc ms (va_A (cp_ws g sh I J P) hs)
theorem ML.of (hn : (as.map (fun v => v.category)).sum ≤ 4) (h : RW g false d mc ms m_Law_led 0 0 0 (cp_ent as) [] sh I J P Q) : ML g d mc ms as sh I J P Q := by
  refine fun hs => va_MetW (cc := m_Law_led.2.1) (maxL := 4) (ret := some .int) (hh := [(0, 9, 12, 13)]) (ws' := cp_WT) (by decide +kernel) rfl ?_
  intro p e s m args below meth c s₁ B hml hv
  obtain ⟨rfl, hsz, hR, hF, hex⟩ := hv
  subst hsz
  have htb := vx_table (x := m_Law_led.1) B (atoms_spec (ws := cp_wsL) B.pre _ List.mem_cons_self)
  have hts := fun (w : Jvm.Cond) (hw : w ∈ cp_WT) => atoms_spec (ws := cp_wsL) B.pre w (List.mem_cons_of_mem _ hw)
  have hown : s.vm.findClass m_Law_led.1.cls = some m.cls := findClass_of_methodNamed B.named
  have hl := lv_entry (as.map (cp_v g)) (n := 4) (by rw [cp_sl_len]; exact hn)
  rw [lg_entry_eq]
  have hz := h p e s m _ below meth c s.heap [] _ (va_A (cp_ws g sh I J P) s.heap.size) ⟨B.exec, B.bytes, B.returns, hml, hown, hts, B.notSynchronized, fun q hq => Or.inr hq, hF, (name_of_methodNamed B.named B.method).1, ⟨fun q => absurd (k_Law_led.symm.trans q) (by decide), fun _ => htb⟩⟩ hR (fun a ha => Or.inl ⟨a, _, cp_ws_get g sh I J P ha⟩) va_S.rf (cp_L_ent hl) (fun q => hex q) (Nat.zero_le _) (Nat.zero_le _)
  unfold cp_MQ at hz
  rw [if_neg (by rw [k_Law_led]; decide), if_neg (by rw [k_Law_led]; decide)] at hz
  exact hz
theorem ml_w1 : Jvm.Cond.methodLink "ColdPlungeLaw" 273 m_Law_led.1 ∈ cp_WT := List.mem_filter.mpr ⟨List.mem_of_getElem? (i := 1303) (by decide +kernel), by decide +kernel⟩
theorem ml_w2 : Jvm.Cond.static m_Law_led.1 ∈ cp_WT := List.mem_filter.mpr ⟨List.mem_of_getElem? (i := 1304) (by decide +kernel), by decide +kernel⟩
theorem ml_w3 : Jvm.Cond.initialized m_Law_led.1.cls ∈ cp_WT := List.mem_filter.mpr ⟨by decide +kernel, by decide +kernel⟩
theorem ml_GI : GoodIn cp_WT (va_wsS "ColdPlungeLaw" 273 m_Law_led.1 cp_wsL) := by
  intro w hw
  have h : w ∈ cp_WT := by
    unfold va_wsS cp_wsL at hw
    rcases List.mem_append.mp hw with h | h
    · rcases List.mem_cons.mp h with rfl | h
      · exact ml_w1
      · rcases List.mem_cons.mp h with rfl | h
        · exact ml_w2
        · rcases List.mem_cons.mp h with rfl | h
          · exact ml_w3
          · cases h
    · rcases List.mem_cons.mp h with rfl | h
      · exact w_Law_led
      · exact h
  exact ⟨h, cp_WT_good h⟩
theorem r_callL {mcC msC pc : Nat} (hM : ML g dC mcC msC as sh I J P Q1) (hy : y.1.cls = "ColdPlungeLaw") (hdd : dC + 1 ≤ d) (hn : as.length = 3) (hre : rest.length ≤ 4) (h1 : cells + mcC ≤ mc) (h2 : slots + msC ≤ ms) (hd : decode y.2.1 pc = .ok (.invokestatic 273, 3))
    (hk : ∀ v sh' I' J' P', Q1 v sh' I' J' P' → RW g false d mc ms y (cells + mcC) (slots + msC) (pc + 3) L (v.toList ++ rest) sh' I' J' P' Q) : RW g false d mc ms y cells slots pc L (as.reverse ++ rest) sh I J P Q := by
  intro p e s m args below meth c H locs ls A hC hR hA hS hL hx z1 z2 TT hT X
  have hHx : false = true → H.size = cp_z g + sh.length := fun q => by cases q
  have hcw : vx_CSW (cp_rm d mc ms) s args y.1.cls 273 m_Law_led.1 m_Law_led.2.1 4 (some .int) [(0, 9, 12, 13)] cp_wsL (cp_rm dC mcC msC) mcC msC 3 := by
    rw [hy]
    refine vx_cwSW (ws' := cp_WT) (Ts := cp_WT) 3 hC.2.2.2.2.2.1 ml_GI rfl rfl rfl ⟨by decide +kernel, by decide +kernel, by decide +kernel⟩ ?_
    unfold cp_rm
    dsimp only
    omega
  refine cp_after (vx_runSW (As := as.map (cp_v g)) (Ts := cp_WT) (n := 3) ⟨hC.1, hC.2.1, hC.2.2.2.1, hC.2.2.2.2.1, hC.2.2.2.2.2.1⟩ (hM H.size) hcw ⟨cp_blind, cp_pre hR hA hS hC.2.2.2.2.2.2.2.1 hC.2.2.2.2.2.2.2.2.1 hHx⟩ rfl (by rw [List.length_map]; exact hn) hL.1 ?_ (cp_room hre) hd ⟨h1, h2⟩) hC hA hS hL hHx hx h1 h2 hk hT X
  show (as.reverse ++ rest).map (cp_v g) = _
  rw [List.map_append, List.map_reverse]
end Led2
