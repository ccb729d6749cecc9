section CpArith
variable {g : cp_G} {ex : Bool} {d mc ms : Nat} {y : cp_M} {cells slots pc : Nat} {L : cp_Lo} {S : List Value} {sh : cp_H} {I : cp_I} {J : cp_J} {P : cp_P} {Q : cp_QT}
theorem r_iadd {a b : Int32} (hd : decode y.2.1 pc = .ok (.iadd, 1))  (hk : RW g ex d mc ms y cells slots (pc + 1) L (.int (a + b) :: S) sh I J P Q) : RW g ex d mc ms y cells slots pc L (.int b :: .int a :: S) sh I J P Q :=
  r_pure hk (fun p e s m args below meth c H locs ls A QQ hC hL z1 z2 k => lv_iadd hC.1 hC.2.1 hd  k)
theorem r_isub {a b : Int32} (hd : decode y.2.1 pc = .ok (.isub, 1))  (hk : RW g ex d mc ms y cells slots (pc + 1) L (.int (a - b) :: S) sh I J P Q) : RW g ex d mc ms y cells slots pc L (.int b :: .int a :: S) sh I J P Q :=
  r_pure hk (fun p e s m args below meth c H locs ls A QQ hC hL z1 z2 k => lv_isub hC.1 hC.2.1 hd  k)
theorem r_imul {a b : Int32} (hd : decode y.2.1 pc = .ok (.imul, 1))  (hk : RW g ex d mc ms y cells slots (pc + 1) L (.int (a * b) :: S) sh I J P Q) : RW g ex d mc ms y cells slots pc L (.int b :: .int a :: S) sh I J P Q :=
  r_pure hk (fun p e s m args below meth c H locs ls A QQ hC hL z1 z2 k => lv_imul hC.1 hC.2.1 hd  k)
theorem r_iand {a b : Int32} (hd : decode y.2.1 pc = .ok (.iand, 1))  (hk : RW g ex d mc ms y cells slots (pc + 1) L (.int (a &&& b) :: S) sh I J P Q) : RW g ex d mc ms y cells slots pc L (.int b :: .int a :: S) sh I J P Q :=
  r_pure hk (fun p e s m args below meth c H locs ls A QQ hC hL z1 z2 k => lv_iand hC.1 hC.2.1 hd  k)
theorem r_ior {a b : Int32} (hd : decode y.2.1 pc = .ok (.ior, 1))  (hk : RW g ex d mc ms y cells slots (pc + 1) L (.int (a ||| b) :: S) sh I J P Q) : RW g ex d mc ms y cells slots pc L (.int b :: .int a :: S) sh I J P Q :=
  r_pure hk (fun p e s m args below meth c H locs ls A QQ hC hL z1 z2 k => lv_ior hC.1 hC.2.1 hd  k)
theorem r_ixor {a b : Int32} (hd : decode y.2.1 pc = .ok (.ixor, 1))  (hk : RW g ex d mc ms y cells slots (pc + 1) L (.int (a ^^^ b) :: S) sh I J P Q) : RW g ex d mc ms y cells slots pc L (.int b :: .int a :: S) sh I J P Q :=
  r_pure hk (fun p e s m args below meth c H locs ls A QQ hC hL z1 z2 k => lv_ixor hC.1 hC.2.1 hd  k)
theorem r_ishl {a b : Int32} (hd : decode y.2.1 pc = .ok (.ishl, 1))  (hk : RW g ex d mc ms y cells slots (pc + 1) L (.int (a <<< (b &&& 31)) :: S) sh I J P Q) : RW g ex d mc ms y cells slots pc L (.int b :: .int a :: S) sh I J P Q :=
  r_pure hk (fun p e s m args below meth c H locs ls A QQ hC hL z1 z2 k => lv_ishl hC.1 hC.2.1 hd  k)
theorem r_ishr {a b : Int32} (hd : decode y.2.1 pc = .ok (.ishr, 1))  (hk : RW g ex d mc ms y cells slots (pc + 1) L (.int (a >>> (b &&& 31)) :: S) sh I J P Q) : RW g ex d mc ms y cells slots pc L (.int b :: .int a :: S) sh I J P Q :=
  r_pure hk (fun p e s m args below meth c H locs ls A QQ hC hL z1 z2 k => lv_ishr hC.1 hC.2.1 hd  k)
theorem r_idiv {a b : Int32} (hd : decode y.2.1 pc = .ok (.idiv, 1)) (hne : ¬ b = 0) (hk : RW g ex d mc ms y cells slots (pc + 1) L (.int (a / b) :: S) sh I J P Q) : RW g ex d mc ms y cells slots pc L (.int b :: .int a :: S) sh I J P Q :=
  r_pure hk (fun p e s m args below meth c H locs ls A QQ hC hL z1 z2 k => lv_idiv hC.1 hC.2.1 hd hne k)
theorem r_irem {a b : Int32} (hd : decode y.2.1 pc = .ok (.irem, 1)) (hne : ¬ b = 0) (hk : RW g ex d mc ms y cells slots (pc + 1) L (.int (a - a / b * b) :: S) sh I J P Q) : RW g ex d mc ms y cells slots pc L (.int b :: .int a :: S) sh I J P Q :=
  r_pure hk (fun p e s m args below meth c H locs ls A QQ hC hL z1 z2 k => lv_irem hC.1 hC.2.1 hd hne k)
theorem r_ineg {a : Int32} (hd : decode y.2.1 pc = .ok (.ineg, 1))  (hk : RW g ex d mc ms y cells slots (pc + 1) L (.int (-a) :: S) sh I J P Q) : RW g ex d mc ms y cells slots pc L (.int a :: S) sh I J P Q :=
  r_pure hk (fun p e s m args below meth c H locs ls A QQ hC hL z1 z2 k => lv_ineg hC.1 hC.2.1 hd  k)
theorem r_ladd {a b : Int64} (hd : decode y.2.1 pc = .ok (.ladd, 1))  (hk : RW g ex d mc ms y cells slots (pc + 1) L (.long (a + b) :: S) sh I J P Q) : RW g ex d mc ms y cells slots pc L (.long b :: .long a :: S) sh I J P Q :=
  r_pure hk (fun p e s m args below meth c H locs ls A QQ hC hL z1 z2 k => lv_ladd hC.1 hC.2.1 hd  k)
theorem r_lmul {a b : Int64} (hd : decode y.2.1 pc = .ok (.lmul, 1))  (hk : RW g ex d mc ms y cells slots (pc + 1) L (.long (a * b) :: S) sh I J P Q) : RW g ex d mc ms y cells slots pc L (.long b :: .long a :: S) sh I J P Q :=
  r_pure hk (fun p e s m args below meth c H locs ls A QQ hC hL z1 z2 k => lv_lmul hC.1 hC.2.1 hd  k)
theorem r_land {a b : Int64} (hd : decode y.2.1 pc = .ok (.land, 1))  (hk : RW g ex d mc ms y cells slots (pc + 1) L (.long (a &&& b) :: S) sh I J P Q) : RW g ex d mc ms y cells slots pc L (.long b :: .long a :: S) sh I J P Q :=
  r_pure hk (fun p e s m args below meth c H locs ls A QQ hC hL z1 z2 k => lv_land hC.1 hC.2.1 hd  k)
theorem r_lor {a b : Int64} (hd : decode y.2.1 pc = .ok (.lor, 1))  (hk : RW g ex d mc ms y cells slots (pc + 1) L (.long (a ||| b) :: S) sh I J P Q) : RW g ex d mc ms y cells slots pc L (.long b :: .long a :: S) sh I J P Q :=
  r_pure hk (fun p e s m args below meth c H locs ls A QQ hC hL z1 z2 k => lv_lor hC.1 hC.2.1 hd  k)
theorem r_lsub {a b : Int64} (hd : decode y.2.1 pc = .ok (.lsub, 1))  (hk : RW g ex d mc ms y cells slots (pc + 1) L (.long (a - b) :: S) sh I J P Q) : RW g ex d mc ms y cells slots pc L (.long b :: .long a :: S) sh I J P Q :=
  r_pure hk (fun p e s m args below meth c H locs ls A QQ hC hL z1 z2 k => lv_lsub hC.1 hC.2.1 hd  k)
theorem r_ldiv {a b : Int64} (hd : decode y.2.1 pc = .ok (.ldiv, 1)) (hne : ¬ b = 0) (hk : RW g ex d mc ms y cells slots (pc + 1) L (.long (a / b) :: S) sh I J P Q) : RW g ex d mc ms y cells slots pc L (.long b :: .long a :: S) sh I J P Q :=
  r_pure hk (fun p e s m args below meth c H locs ls A QQ hC hL z1 z2 k => lv_ldiv hC.1 hC.2.1 hd hne k)
theorem r_lrem {a b : Int64} (hd : decode y.2.1 pc = .ok (.lrem, 1)) (hne : ¬ b = 0) (hk : RW g ex d mc ms y cells slots (pc + 1) L (.long (a - a / b * b) :: S) sh I J P Q) : RW g ex d mc ms y cells slots pc L (.long b :: .long a :: S) sh I J P Q :=
  r_pure hk (fun p e s m args below meth c H locs ls A QQ hC hL z1 z2 k => lv_lrem hC.1 hC.2.1 hd hne k)
theorem r_lshl {a : Int64} {b : Int32} (hd : decode y.2.1 pc = .ok (.lshl, 1))  (hk : RW g ex d mc ms y cells slots (pc + 1) L (.long (a <<< (b.toInt64 &&& 63)) :: S) sh I J P Q) : RW g ex d mc ms y cells slots pc L (.int b :: .long a :: S) sh I J P Q :=
  r_pure hk (fun p e s m args below meth c H locs ls A QQ hC hL z1 z2 k => lv_lshl hC.1 hC.2.1 hd rfl k)
theorem r_lshr {a : Int64} {b : Int32} (hd : decode y.2.1 pc = .ok (.lshr, 1))  (hk : RW g ex d mc ms y cells slots (pc + 1) L (.long (a >>> (b.toInt64 &&& 63)) :: S) sh I J P Q) : RW g ex d mc ms y cells slots pc L (.int b :: .long a :: S) sh I J P Q :=
  r_pure hk (fun p e s m args below meth c H locs ls A QQ hC hL z1 z2 k => lv_lshr hC.1 hC.2.1 hd rfl k)
theorem r_iushr {a b : Int32} (hd : decode y.2.1 pc = .ok (.iushr, 1))  (hk : RW g ex d mc ms y cells slots (pc + 1) L (.int ((a.toUInt32 >>> (b.toUInt32 &&& Int32.toUInt32 31)).toInt32) :: S) sh I J P Q) : RW g ex d mc ms y cells slots pc L (.int b :: .int a :: S) sh I J P Q :=
  r_pure hk (fun p e s m args below meth c H locs ls A QQ hC hL z1 z2 k => lv_iushr hC.1 hC.2.1 hd rfl k)
theorem r_i2l {a : Int32} (hd : decode y.2.1 pc = .ok (.i2l, 1))  (hk : RW g ex d mc ms y cells slots (pc + 1) L (.long a.toInt64 :: S) sh I J P Q) : RW g ex d mc ms y cells slots pc L (.int a :: S) sh I J P Q :=
  r_pure hk (fun p e s m args below meth c H locs ls A QQ hC hL z1 z2 k => lv_i2l hC.1 hC.2.1 hd rfl k)
theorem r_i2b {a : Int32} (hd : decode y.2.1 pc = .ok (.i2b, 1))  (hk : RW g ex d mc ms y cells slots (pc + 1) L (.int a.toInt8.toInt32 :: S) sh I J P Q) : RW g ex d mc ms y cells slots pc L (.int a :: S) sh I J P Q :=
  r_pure hk (fun p e s m args below meth c H locs ls A QQ hC hL z1 z2 k => lv_i2b hC.1 hC.2.1 hd rfl k)
theorem r_i2c {a : Int32} (hd : decode y.2.1 pc = .ok (.i2c, 1))  (hk : RW g ex d mc ms y cells slots (pc + 1) L (.int (a.toUInt32 % 65536).toInt32 :: S) sh I J P Q) : RW g ex d mc ms y cells slots pc L (.int a :: S) sh I J P Q :=
  r_pure hk (fun p e s m args below meth c H locs ls A QQ hC hL z1 z2 k => lv_i2c hC.1 hC.2.1 hd rfl k)
theorem r_lcmp {a b : Int64} (hd : decode y.2.1 pc = .ok (.lcmp, 1)) (hk : RW g ex d mc ms y cells slots (pc + 1) L (.int (lg_cmp a b) :: S) sh I J P Q) : RW g ex d mc ms y cells slots pc L (.long b :: .long a :: S) sh I J P Q :=
  r_pure hk (fun p e s m args below meth c H locs ls A QQ hC hL z1 z2 k => W.lcmp hC.1 hC.2.1 hd k)
theorem r_dup {v : Value} (hd : decode y.2.1 pc = .ok (.dup, 1)) (hv : v.category = 1) (hk : RW g ex d mc ms y cells slots (pc + 1) L (v :: v :: S) sh I J P Q) : RW g ex d mc ms y cells slots pc L (v :: S) sh I J P Q :=
  r_pure hk (fun p e s m args below meth c H locs ls A QQ hC hL z1 z2 k => lv_dup hC.1 hC.2.1 hd ((cp_cat g v).trans hv) k)
theorem r_pop {v : Value} (hd : decode y.2.1 pc = .ok (.pop, 1)) (hv : v.category = 1) (hk : RW g ex d mc ms y cells slots (pc + 1) L S sh I J P Q) : RW g ex d mc ms y cells slots pc L (v :: S) sh I J P Q :=
  r_pure hk (fun p e s m args below meth c H locs ls A QQ hC hL z1 z2 k => lv_pop hC.1 hC.2.1 hd ((cp_cat g v).trans hv) k)
theorem r_dup2 {v w : Value} (hd : decode y.2.1 pc = .ok (.dup2, 1)) (hv : v.category = 1) (hw : w.category = 1) (hk : RW g ex d mc ms y cells slots (pc + 1) L (v :: w :: v :: w :: S) sh I J P Q) : RW g ex d mc ms y cells slots pc L (v :: w :: S) sh I J P Q :=
  r_pure hk (fun p e s m args below meth c H locs ls A QQ hC hL z1 z2 k => lv_dup2_11 hC.1 hC.2.1 hd ((cp_cat g v).trans hv) ((cp_cat g w).trans hw) k)
theorem r_if_eq {a : Int32} {off : Int} {t : Nat} (hd : decode y.2.1 pc = .ok (.ifCond .eq off, 3)) (ht : (pc : Int) + off = (t : Int)) (hT : a = 0 → RW g ex d mc ms y cells slots t L S sh I J P Q) (hF : ¬ (a = 0) → RW g ex d mc ms y cells slots (pc + 3) L S sh I J P Q) : RW g ex d mc ms y cells slots pc L (.int a :: S) sh I J P Q :=
  r_br hT hF (fun p e s m args below meth c H locs ls A QQ hC kt kf => lv_if_eq hC.1 hC.2.1 hd ht kt kf)
theorem r_if_ne {a : Int32} {off : Int} {t : Nat} (hd : decode y.2.1 pc = .ok (.ifCond .ne off, 3)) (ht : (pc : Int) + off = (t : Int)) (hT : ¬ a = 0 → RW g ex d mc ms y cells slots t L S sh I J P Q) (hF : ¬ (¬ a = 0) → RW g ex d mc ms y cells slots (pc + 3) L S sh I J P Q) : RW g ex d mc ms y cells slots pc L (.int a :: S) sh I J P Q :=
  r_br hT hF (fun p e s m args below meth c H locs ls A QQ hC kt kf => lv_if_ne hC.1 hC.2.1 hd ht kt (fun q => kf (fun z => z q)))
theorem r_if_lt {a : Int32} {off : Int} {t : Nat} (hd : decode y.2.1 pc = .ok (.ifCond .lt off, 3)) (ht : (pc : Int) + off = (t : Int)) (hT : a < 0 → RW g ex d mc ms y cells slots t L S sh I J P Q) (hF : ¬ (a < 0) → RW g ex d mc ms y cells slots (pc + 3) L S sh I J P Q) : RW g ex d mc ms y cells slots pc L (.int a :: S) sh I J P Q :=
  r_br hT hF (fun p e s m args below meth c H locs ls A QQ hC kt kf => lv_if_lt hC.1 hC.2.1 hd ht kt kf)
theorem r_if_ge {a : Int32} {off : Int} {t : Nat} (hd : decode y.2.1 pc = .ok (.ifCond .ge off, 3)) (ht : (pc : Int) + off = (t : Int)) (hT : 0 ≤ a → RW g ex d mc ms y cells slots t L S sh I J P Q) (hF : ¬ (0 ≤ a) → RW g ex d mc ms y cells slots (pc + 3) L S sh I J P Q) : RW g ex d mc ms y cells slots pc L (.int a :: S) sh I J P Q :=
  r_br hT hF (fun p e s m args below meth c H locs ls A QQ hC kt kf => lv_if_ge hC.1 hC.2.1 hd ht kt kf)
theorem r_if_gt {a : Int32} {off : Int} {t : Nat} (hd : decode y.2.1 pc = .ok (.ifCond .gt off, 3)) (ht : (pc : Int) + off = (t : Int)) (hT : 0 < a → RW g ex d mc ms y cells slots t L S sh I J P Q) (hF : ¬ (0 < a) → RW g ex d mc ms y cells slots (pc + 3) L S sh I J P Q) : RW g ex d mc ms y cells slots pc L (.int a :: S) sh I J P Q :=
  r_br hT hF (fun p e s m args below meth c H locs ls A QQ hC kt kf => lv_if_gt hC.1 hC.2.1 hd ht kt kf)
theorem r_if_le {a : Int32} {off : Int} {t : Nat} (hd : decode y.2.1 pc = .ok (.ifCond .le off, 3)) (ht : (pc : Int) + off = (t : Int)) (hT : a ≤ 0 → RW g ex d mc ms y cells slots t L S sh I J P Q) (hF : ¬ (a ≤ 0) → RW g ex d mc ms y cells slots (pc + 3) L S sh I J P Q) : RW g ex d mc ms y cells slots pc L (.int a :: S) sh I J P Q :=
  r_br hT hF (fun p e s m args below meth c H locs ls A QQ hC kt kf => lv_if_le hC.1 hC.2.1 hd ht kt kf)
theorem r_icmp_eq {a b : Int32} {off : Int} {t : Nat} (hd : decode y.2.1 pc = .ok (.if_icmp .eq off, 3)) (ht : (pc : Int) + off = (t : Int)) (hT : a = b → RW g ex d mc ms y cells slots t L S sh I J P Q) (hF : ¬ (a = b) → RW g ex d mc ms y cells slots (pc + 3) L S sh I J P Q) : RW g ex d mc ms y cells slots pc L (.int b :: .int a :: S) sh I J P Q :=
  r_br hT hF (fun p e s m args below meth c H locs ls A QQ hC kt kf => lv_icmp_eq hC.1 hC.2.1 hd ht kt kf)
theorem r_icmp_ne {a b : Int32} {off : Int} {t : Nat} (hd : decode y.2.1 pc = .ok (.if_icmp .ne off, 3)) (ht : (pc : Int) + off = (t : Int)) (hT : ¬ a = b → RW g ex d mc ms y cells slots t L S sh I J P Q) (hF : ¬ (¬ a = b) → RW g ex d mc ms y cells slots (pc + 3) L S sh I J P Q) : RW g ex d mc ms y cells slots pc L (.int b :: .int a :: S) sh I J P Q :=
  r_br hT hF (fun p e s m args below meth c H locs ls A QQ hC kt kf => lv_icmp_ne hC.1 hC.2.1 hd ht kt (fun q => kf (fun z => z q)))
theorem r_icmp_lt {a b : Int32} {off : Int} {t : Nat} (hd : decode y.2.1 pc = .ok (.if_icmp .lt off, 3)) (ht : (pc : Int) + off = (t : Int)) (hT : a < b → RW g ex d mc ms y cells slots t L S sh I J P Q) (hF : ¬ (a < b) → RW g ex d mc ms y cells slots (pc + 3) L S sh I J P Q) : RW g ex d mc ms y cells slots pc L (.int b :: .int a :: S) sh I J P Q :=
  r_br hT hF (fun p e s m args below meth c H locs ls A QQ hC kt kf => lv_icmp_lt hC.1 hC.2.1 hd ht kt kf)
theorem r_icmp_ge {a b : Int32} {off : Int} {t : Nat} (hd : decode y.2.1 pc = .ok (.if_icmp .ge off, 3)) (ht : (pc : Int) + off = (t : Int)) (hT : b ≤ a → RW g ex d mc ms y cells slots t L S sh I J P Q) (hF : ¬ (b ≤ a) → RW g ex d mc ms y cells slots (pc + 3) L S sh I J P Q) : RW g ex d mc ms y cells slots pc L (.int b :: .int a :: S) sh I J P Q :=
  r_br hT hF (fun p e s m args below meth c H locs ls A QQ hC kt kf => lv_icmp_ge hC.1 hC.2.1 hd ht kt kf)
theorem r_icmp_gt {a b : Int32} {off : Int} {t : Nat} (hd : decode y.2.1 pc = .ok (.if_icmp .gt off, 3)) (ht : (pc : Int) + off = (t : Int)) (hT : b < a → RW g ex d mc ms y cells slots t L S sh I J P Q) (hF : ¬ (b < a) → RW g ex d mc ms y cells slots (pc + 3) L S sh I J P Q) : RW g ex d mc ms y cells slots pc L (.int b :: .int a :: S) sh I J P Q :=
  r_br hT hF (fun p e s m args below meth c H locs ls A QQ hC kt kf => lv_icmp_gt hC.1 hC.2.1 hd ht kt kf)
theorem r_icmp_le {a b : Int32} {off : Int} {t : Nat} (hd : decode y.2.1 pc = .ok (.if_icmp .le off, 3)) (ht : (pc : Int) + off = (t : Int)) (hT : a ≤ b → RW g ex d mc ms y cells slots t L S sh I J P Q) (hF : ¬ (a ≤ b) → RW g ex d mc ms y cells slots (pc + 3) L S sh I J P Q) : RW g ex d mc ms y cells slots pc L (.int b :: .int a :: S) sh I J P Q :=
  r_br hT hF (fun p e s m args below meth c H locs ls A QQ hC kt kf => lv_icmp_le hC.1 hC.2.1 hd ht kt kf)
theorem r_goto {off : Int} {t : Nat} (hd : decode y.2.1 pc = .ok (.goto off, 3)) (ht : (pc : Int) + off = (t : Int)) (hk : RW g ex d mc ms y cells slots t L S sh I J P Q) : RW g ex d mc ms y cells slots pc L S sh I J P Q :=
  r_pure hk (fun p e s m args below meth c H locs ls A QQ hC hL z1 z2 k => lv_goto hC.1 hC.2.1 hd ht k)
theorem r_tabO {dflt lo hi : Int} {offs : Array Int} {len t : Nat} {a : Int32} (hd : decode y.2.1 pc = .ok (.tableswitch dflt lo hi offs, len)) (h : a.toInt < lo ∨ hi < a.toInt) (ht : (pc : Int) + dflt = (t : Int)) (hk : RW g ex d mc ms y cells slots t L S sh I J P Q) : RW g ex d mc ms y cells slots pc L (.int a :: S) sh I J P Q :=
  r_pure hk (fun p e s m args below meth c H locs ls A QQ hC hL z1 z2 k => lv_tableOut hC.1 hC.2.1 hd h ht k)
theorem r_tabI {dflt lo hi off : Int} {offs : Array Int} {len t : Nat} {a : Int32} (hd : decode y.2.1 pc = .ok (.tableswitch dflt lo hi offs, len)) (h1 : ¬ a.toInt < lo) (h2 : ¬ hi < a.toInt) (ho : offs[(a.toInt - lo).toNat]? = some off) (ht : (pc : Int) + off = (t : Int)) (hk : RW g ex d mc ms y cells slots t L S sh I J P Q) : RW g ex d mc ms y cells slots pc L (.int a :: S) sh I J P Q :=
  r_pure hk (fun p e s m args below meth c H locs ls A QQ hC hL z1 z2 k => lv_tableIn hC.1 hC.2.1 hd h1 h2 ho ht k)
end CpArith
