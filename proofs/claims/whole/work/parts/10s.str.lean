section CpStr
variable {g : cp_G} {ex : Bool} {d mc ms : Nat} {y : cp_M} {cells slots pc : Nat} {L : cp_Lo} {S : List Value} {sh : cp_H} {I : cp_I} {J : cp_J} {P : cp_P} {Q : cp_QT}
theorem r_sgV {ix j : Nat} {t : List Int32} (hj : cp_tx[j]? = some t) (hj9 : j < 1000) (hw : Jvm.Cond.fieldLink y.1.cls ix "java/lang/String" "value" "[B" ∈ cp_WT) (hd : decode y.2.1 pc = .ok (.getfield ix, 3)) (hk : RW g ex d mc ms y cells slots (pc + 3) L (.ref (2000 + j) :: S) sh I J P Q) : RW g ex d mc ms y cells slots pc L (.ref (1000 + j) :: S) sh I J P Q := by
  intro p e s m args below meth c H locs ls A hC hR hA hS hL hx h1 h2
  have k1 : W p (cp_l g) e (cp_rm d mc ms) s m args below meth c H locs cells slots (cp_MQ g y ex mc ms A Q below args s) (F0 m (pc + 3) ls (.ref (cp_a g (2000 + j)) :: S.map (cp_v g))) := hk p e s m args below meth c H locs ls A hC hR hA hS hL hx h1 h2
  show W p (cp_l g) e (cp_rm d mc ms) s m args below meth c H locs cells slots _ (F0 m pc ls (.ref (cp_a g (1000 + j)) :: S.map (cp_v g)))
  rw [cp_a_b] at k1
  rw [cp_a_s g hj9]
  exact vk_getf hC.1 hC.2.1 (hC.2.2.2.2.2.2.2.2.1.2.2.2.1 j t hj).2.2.1 hS hC.2.2.2.2.1 (cp_wd hC hw) (fun _ h => h) hd k1
theorem r_sgC {ix j : Nat} {t : List Int32} (hj : cp_tx[j]? = some t) (hj9 : j < 1000) (hw : Jvm.Cond.fieldLink y.1.cls ix "java/lang/String" "coder" "B" ∈ cp_WT) (hd : decode y.2.1 pc = .ok (.getfield ix, 3)) (hk : RW g ex d mc ms y cells slots (pc + 3) L (.int 0 :: S) sh I J P Q) : RW g ex d mc ms y cells slots pc L (.ref (1000 + j) :: S) sh I J P Q := by
  intro p e s m args below meth c H locs ls A hC hR hA hS hL hx h1 h2
  show W p (cp_l g) e (cp_rm d mc ms) s m args below meth c H locs cells slots _ (F0 m pc ls (.ref (cp_a g (1000 + j)) :: S.map (cp_v g)))
  rw [cp_a_s g hj9]
  exact vk_getf hC.1 hC.2.1 (hC.2.2.2.2.2.2.2.2.1.2.2.2.1 j t hj).2.1 hS hC.2.2.2.2.1 (cp_wd hC hw) (fun _ h => h) hd (hk p e s m args below meth c H locs ls A hC hR hA hS hL hx h1 h2)
theorem r_stlen {j : Nat} {t : List Int32} (hj : cp_tx[j]? = some t) (hd : decode y.2.1 pc = .ok (.arraylength, 1)) (hk : RW g ex d mc ms y cells slots (pc + 1) L (.int (Int32.ofNat t.length) :: S) sh I J P Q) : RW g ex d mc ms y cells slots pc L (.ref (2000 + j) :: S) sh I J P Q := by
  intro p e s m args below meth c H locs ls A hC hR hA hS hL hx h1 h2
  show W p (cp_l g) e (cp_rm d mc ms) s m args below meth c H locs cells slots _ (F0 m pc ls (.ref (cp_a g (2000 + j)) :: S.map (cp_v g)))
  rw [cp_a_b]
  exact va_tlen hC.1 hC.2.1 (hC.2.2.2.2.2.2.2.2.1.2.2.2.1 j t hj).2.2.2 hS rfl hd (hk p e s m args below meth c H locs ls A hC hR hA hS hL hx h1 h2)
theorem r_stb {j : Nat} {t : List Int32} {i : Int32} (hj : cp_tx[j]? = some t) (hi : vp_in i t.length) (hd : decode y.2.1 pc = .ok (.baload, 1)) (hk : RW g ex d mc ms y cells slots (pc + 1) L (.int (t.getD i.toNatClampNeg 0) :: S) sh I J P Q) : RW g ex d mc ms y cells slots pc L (.int i :: .ref (2000 + j) :: S) sh I J P Q := by
  intro p e s m args below meth c H locs ls A hC hR hA hS hL hx h1 h2
  show W p (cp_l g) e (cp_rm d mc ms) s m args below meth c H locs cells slots _ (F0 m pc ls (.int i :: .ref (cp_a g (2000 + j)) :: S.map (cp_v g)))
  rw [cp_a_b]
  exact va_tb hC.1 hC.2.1 (hC.2.2.2.2.2.2.2.2.1.2.2.2.1 j t hj).2.2.2 hS hi rfl hd (hk p e s m args below meth c H locs ls A hC hR hA hS hL hx h1 h2)
theorem r_gsC {ix : Nat} (hw : Jvm.Cond.fieldLink y.1.cls ix "java/lang/String" "COMPACT_STRINGS" "Z" ∈ cp_WT) (hd : decode y.2.1 pc = .ok (.getstatic ix, 3)) (hk : RW g ex d mc ms y cells slots (pc + 3) L (.int 1 :: S) sh I J P Q) : RW g ex d mc ms y cells slots pc L S sh I J P Q := by
  intro p e s m args below meth c H locs ls A hC hR hA hS hL hx h1 h2
  exact va_gets hC.1 hC.2.1 hC.2.2.2.2.2.2.2.2.1.2.2.2.2.2.1 hS hC.2.2.2.2.1 (cp_wd hC hw) (fun _ h => h) hd (hk p e s m args below meth c H locs ls A hC hR hA hS hL hx h1 h2)
theorem r_gsF {ix : Nat} (hw : Jvm.Cond.fieldLink y.1.cls ix "jdk/internal/util/Preconditions" "SIOOBE_FORMATTER" "Ljava/util/function/BiFunction;" ∈ cp_WT) (hd : decode y.2.1 pc = .ok (.getstatic ix, 3)) (hk : RW g ex d mc ms y cells slots (pc + 3) L (.retAddr 0 :: S) sh I J P Q) : RW g ex d mc ms y cells slots pc L S sh I J P Q := by
  intro p e s m args below meth c H locs ls A hC hR hA hS hL hx h1 h2
  exact va_gets hC.1 hC.2.1 hC.2.2.2.2.2.2.2.2.1.2.2.2.2.2.2.1 hS hC.2.2.2.2.1 (cp_wd hC hw) (fun _ h => h) hd (hk p e s m args below meth c H locs ls A hC hR hA hS hL hx h1 h2)
variable {cal : cp_M} {ix n mcC msC dC : Nat} {as rest : List Value} {Q1 : cp_QT}
theorem r_callVS {j : Nat} {t : List Int32} (hM : MW g ex dC mcC msC cal (.ref (1000 + j) :: as) sh I J P Q1) (hdd : dC + 1 ≤ d) (hj : cp_tx[j]? = some t) (hj9 : j < 1000) (hw : Jvm.Cond.methodLink y.1.cls ix cal.1 ∈ cp_WT) (hwi : Jvm.Cond.instanceMethod cal.1 ∈ cp_WT) (hws : Jvm.Cond.selects "java/lang/String" cal.1 cal.1 ∈ cp_WT)
    (hds : (parseMethodDescriptor cal.1.desc).map (fun d => d.parameters.length) = some n) (hn : as.length = n) (hre : rest.length ≤ 4) (h1 : cells + mcC ≤ mc) (h2 : slots + msC ≤ ms) (hd : decode y.2.1 pc = .ok (.invokevirtual ix, 3))
    (hk : ∀ v sh' I' J' P', Q1 v sh' I' J' P' → RW g ex d mc ms y (cells + mcC) (slots + msC) (pc + 3) L (v.toList ++ rest) sh' I' J' P' Q) : RW g ex d mc ms y cells slots pc L (as.reverse ++ .ref (1000 + j) :: rest) sh I J P Q := by
  intro p e s m args below meth c H locs ls A hC hR hA hS hL hx z1 z2 TT hT X
  obtain ⟨hok, hM⟩ := hM
  have hHx := cp_exact hT X hR hS hC.2.2.2.2.2.2.2.2.1.2.1.2.2.2 hx
  refine cp_after (va_runV (C := "java/lang/String") (b := cp_a g (1000 + j)) (As := as.map (cp_v g)) (Ts := cp_WT) (n := n) ⟨hC.1, hC.2.1, hC.2.2.2.1, hC.2.2.2.2.1, hC.2.2.2.2.2.1⟩ (hM H.size) ⟨cp_cb hC hok hw hds hdd, cp_wd hC hwi, cp_wd hC hws⟩ ⟨cp_blind, ?_, cp_pre (as := .ref (1000 + j) :: as) hR hA hS hC.2.2.2.2.2.2.2.1 hC.2.2.2.2.2.2.2.2.1 hHx⟩ rfl (by rw [List.length_map]; exact hn) hL.1 ?_ (cp_room hre) hd ⟨h1, h2⟩) hC hA hS hL hHx hx h1 h2 hk hT X
  · rw [cp_a_s g hj9]
    obtain ⟨cell, h1, h2, h3, -⟩ := (hC.2.2.2.2.2.2.2.2.1.2.2.2.1 j t hj).1.kept hS.2.1
    exact ⟨cell, h1, h2, h3⟩
  · show (as.reverse ++ .ref (1000 + j) :: rest).map (cp_v g) = _
    rw [List.map_append, List.map_reverse]
    rfl
end CpStr
