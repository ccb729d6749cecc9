section Mem2
variable {g : cp_G} {d : Nat} {sh : cp_H} {I : cp_I} {J : cp_J} {P : cp_P} {Q : cp_QT} {t u r x n c : Nat}
theorem cfi_lt {um tm : Nat} {ua ub fs : Nat → Nat} (hu : um ≤ 4) : cfi I c n um tm ua ub fs < 65536 := by
  refine Nat.lt_pow_two_of_testBit (n := 16) _ (fun i hi => ?_)
  unfold cfi
  rw [sp_set_bit]
  have : 2 ^ um ≤ 2 ^ 4 := Nat.pow_le_pow_right (by omega) hu
  have : ¬ i < 2 ^ um := by omega
  simp [this]
/-! the number of bits below 2^16 -/
def pc16 (f : Nat) : Nat := sp_cnt (fun k => f.testBit k) 16 0 0
def nb1 (a : Nat) : Nat := a - ((a >>> 1) &&& 1431655765)
def nb2 (a : Nat) : Nat := (a &&& 858993459) + ((a >>> 2) &&& 858993459)
def nb3 (a : Nat) : Nat := (a + (a >>> 4)) &&& 252645135
def nb4 (a : Nat) : Nat := a + (a >>> 8)
def nb5 (a : Nat) : Nat := a + (a >>> 16)
def nbc (a : Nat) : Nat := nb5 (nb4 (nb3 (nb2 (nb1 a)))) &&& 63
theorem us_nI {a k : Nat} (ha : a < 2 ^ 31) (hk : k < 32) : us (nI a) (nI k) = nI (a >>> k) := by
  unfold us
  have e : ((nI k).toUInt32 &&& Int32.toUInt32 31) = UInt32.ofNat k := by
    have key : ∀ k : Nat, k < 32 → ((nI k).toUInt32 &&& Int32.toUInt32 31) = UInt32.ofNat k := by decide +kernel
    exact key k hk
  rw [e]
  apply Int32.toBitVec_inj.1
  show (UInt32.toBitVec ((nI a).toUInt32 >>> UInt32.ofNat k)) = BitVec.ofNat 32 (a >>> k)
  rw [UInt32.toBitVec_shiftRight]
  apply BitVec.eq_of_toNat_eq
  have h1 : ((nI a).toUInt32).toBitVec = BitVec.ofNat 32 a := rfl
  have h2 : (UInt32.ofNat k).toBitVec % 32 = BitVec.ofNat 32 k := by
    have key : ∀ k : Nat, k < 32 → (UInt32.ofNat k).toBitVec % 32 = BitVec.ofNat 32 k := by decide +kernel
    exact key k hk
  rw [h1, h2]
  rw [BitVec.ushiftRight_eq', BitVec.toNat_ushiftRight, BitVec.toNat_ofNat, BitVec.toNat_ofNat, BitVec.toNat_ofNat]
  have h3 : a >>> k ≤ a := Nat.shiftRight_le a k
  rw [Nat.mod_eq_of_lt (show a < 2 ^ 32 by omega), Nat.mod_eq_of_lt (show k < 2 ^ 32 by omega), Nat.mod_eq_of_lt (show a >>> k < 2 ^ 32 by omega)]
theorem bc_nbc {f : Nat} (hf : f < 65536) : bc (nI f) = nI (nbc f) := by
  have s1 : f >>> 1 ≤ f := Nat.shiftRight_le f 1
  have s2 : (f >>> 1) &&& 1431655765 ≤ f >>> 1 := Nat.and_le_left
  have e1 : bc1 (nI f) = nI (nb1 f) := by
    unfold bc1 nb1
    rw [show (1 : Int32) = nI 1 from rfl, us_nI (by omega) (by omega), show (1431655765 : Int32) = nI 1431655765 from rfl, and_g, pk_sub (by omega)]
  have b1 : nb1 f < 65536 := by unfold nb1; omega
  have e2 : bc2 (nI (nb1 f)) = nI (nb2 (nb1 f)) := by
    unfold bc2 nb2
    rw [show (2 : Int32) = nI 2 from rfl, us_nI (by omega) (by omega), show (858993459 : Int32) = nI 858993459 from rfl, and_g, and_g, nI_add]
  have b2 : nb2 (nb1 f) < 131072 := by
    unfold nb2
    have h1 : nb1 f &&& 858993459 ≤ nb1 f := Nat.and_le_left
    have h2 : (nb1 f >>> 2) &&& 858993459 ≤ nb1 f >>> 2 := Nat.and_le_left
    have h3 : nb1 f >>> 2 ≤ nb1 f := Nat.shiftRight_le _ 2
    omega
  have e3 : bc3 (nI (nb2 (nb1 f))) = nI (nb3 (nb2 (nb1 f))) := by
    unfold bc3 nb3
    rw [show (4 : Int32) = nI 4 from rfl, us_nI (by omega) (by omega), nI_add, show (252645135 : Int32) = nI 252645135 from rfl, and_g]
  have b3 : nb3 (nb2 (nb1 f)) < 262144 := by
    unfold nb3
    have h1 : (nb2 (nb1 f) + (nb2 (nb1 f) >>> 4)) &&& 252645135 ≤ nb2 (nb1 f) + (nb2 (nb1 f) >>> 4) := Nat.and_le_left
    have h3 : nb2 (nb1 f) >>> 4 ≤ nb2 (nb1 f) := Nat.shiftRight_le _ 4
    omega
  have e4 : bc4 (nI (nb3 (nb2 (nb1 f)))) = nI (nb4 (nb3 (nb2 (nb1 f)))) := by
    unfold bc4 nb4
    rw [show (8 : Int32) = nI 8 from rfl, us_nI (by omega) (by omega), nI_add]
  have b4 : nb4 (nb3 (nb2 (nb1 f))) < 524288 := by
    unfold nb4
    have h3 : nb3 (nb2 (nb1 f)) >>> 8 ≤ nb3 (nb2 (nb1 f)) := Nat.shiftRight_le _ 8
    omega
  have e5 : bc5 (nI (nb4 (nb3 (nb2 (nb1 f))))) = nI (nb5 (nb4 (nb3 (nb2 (nb1 f))))) := by
    unfold bc5 nb5
    rw [show (16 : Int32) = nI 16 from rfl, us_nI (by omega) (by omega), nI_add]
  unfold bc nbc
  rw [e1, e2, e3, e4, e5, show (63 : Int32) = nI 63 from rfl, and_g]
def nbq : Nat → Nat → Bool
  | 0, _ => true
  | m + 1, k => Nat.beq (nbc k) (pc16 k) && nbq m (k + 1)
theorem nbq_f : ∀ m k, nbq m k = true → ∀ i, k ≤ i → i < k + m → nbc i = pc16 i
  | 0, k, _, i, h1, h2 => by omega
  | m + 1, k, h, i, h1, h2 => by
    rw [nbq, Bool.and_eq_true] at h
    by_cases e : i = k
    · rw [e]
      exact Nat.eq_of_beq_eq_true h.1
    · exact nbq_f m (k + 1) h.2 i (by omega) (by omega)
theorem nbq_0 : nbq 2048 0 = true := by decide +kernel
theorem nbq_1 : nbq 2048 2048 = true := by decide +kernel
theorem nbq_2 : nbq 2048 4096 = true := by decide +kernel
theorem nbq_3 : nbq 2048 6144 = true := by decide +kernel
theorem nbq_4 : nbq 2048 8192 = true := by decide +kernel
theorem nbq_5 : nbq 2048 10240 = true := by decide +kernel
theorem nbq_6 : nbq 2048 12288 = true := by decide +kernel
theorem nbq_7 : nbq 2048 14336 = true := by decide +kernel
theorem nbq_8 : nbq 2048 16384 = true := by decide +kernel
theorem nbq_9 : nbq 2048 18432 = true := by decide +kernel
theorem nbq_10 : nbq 2048 20480 = true := by decide +kernel
theorem nbq_11 : nbq 2048 22528 = true := by decide +kernel
theorem nbq_12 : nbq 2048 24576 = true := by decide +kernel
theorem nbq_13 : nbq 2048 26624 = true := by decide +kernel
theorem nbq_14 : nbq 2048 28672 = true := by decide +kernel
theorem nbq_15 : nbq 2048 30720 = true := by decide +kernel
theorem nbq_16 : nbq 2048 32768 = true := by decide +kernel
theorem nbq_17 : nbq 2048 34816 = true := by decide +kernel
theorem nbq_18 : nbq 2048 36864 = true := by decide +kernel
theorem nbq_19 : nbq 2048 38912 = true := by decide +kernel
theorem nbq_20 : nbq 2048 40960 = true := by decide +kernel
theorem nbq_21 : nbq 2048 43008 = true := by decide +kernel
theorem nbq_22 : nbq 2048 45056 = true := by decide +kernel
theorem nbq_23 : nbq 2048 47104 = true := by decide +kernel
theorem nbq_24 : nbq 2048 49152 = true := by decide +kernel
theorem nbq_25 : nbq 2048 51200 = true := by decide +kernel
theorem nbq_26 : nbq 2048 53248 = true := by decide +kernel
theorem nbq_27 : nbq 2048 55296 = true := by decide +kernel
theorem nbq_28 : nbq 2048 57344 = true := by decide +kernel
theorem nbq_29 : nbq 2048 59392 = true := by decide +kernel
theorem nbq_30 : nbq 2048 61440 = true := by decide +kernel
theorem nbq_31 : nbq 2048 63488 = true := by decide +kernel
theorem nbc_pc {f : Nat} (hf : f < 65536) : nbc f = pc16 f := by
  by_cases c0 : f < 2048
  · exact nbq_f 2048 0 nbq_0 f (by omega) (by omega)
  by_cases c1 : f < 4096
  · exact nbq_f 2048 2048 nbq_1 f (by omega) (by omega)
  by_cases c2 : f < 6144
  · exact nbq_f 2048 4096 nbq_2 f (by omega) (by omega)
  by_cases c3 : f < 8192
  · exact nbq_f 2048 6144 nbq_3 f (by omega) (by omega)
  by_cases c4 : f < 10240
  · exact nbq_f 2048 8192 nbq_4 f (by omega) (by omega)
  by_cases c5 : f < 12288
  · exact nbq_f 2048 10240 nbq_5 f (by omega) (by omega)
  by_cases c6 : f < 14336
  · exact nbq_f 2048 12288 nbq_6 f (by omega) (by omega)
  by_cases c7 : f < 16384
  · exact nbq_f 2048 14336 nbq_7 f (by omega) (by omega)
  by_cases c8 : f < 18432
  · exact nbq_f 2048 16384 nbq_8 f (by omega) (by omega)
  by_cases c9 : f < 20480
  · exact nbq_f 2048 18432 nbq_9 f (by omega) (by omega)
  by_cases c10 : f < 22528
  · exact nbq_f 2048 20480 nbq_10 f (by omega) (by omega)
  by_cases c11 : f < 24576
  · exact nbq_f 2048 22528 nbq_11 f (by omega) (by omega)
  by_cases c12 : f < 26624
  · exact nbq_f 2048 24576 nbq_12 f (by omega) (by omega)
  by_cases c13 : f < 28672
  · exact nbq_f 2048 26624 nbq_13 f (by omega) (by omega)
  by_cases c14 : f < 30720
  · exact nbq_f 2048 28672 nbq_14 f (by omega) (by omega)
  by_cases c15 : f < 32768
  · exact nbq_f 2048 30720 nbq_15 f (by omega) (by omega)
  by_cases c16 : f < 34816
  · exact nbq_f 2048 32768 nbq_16 f (by omega) (by omega)
  by_cases c17 : f < 36864
  · exact nbq_f 2048 34816 nbq_17 f (by omega) (by omega)
  by_cases c18 : f < 38912
  · exact nbq_f 2048 36864 nbq_18 f (by omega) (by omega)
  by_cases c19 : f < 40960
  · exact nbq_f 2048 38912 nbq_19 f (by omega) (by omega)
  by_cases c20 : f < 43008
  · exact nbq_f 2048 40960 nbq_20 f (by omega) (by omega)
  by_cases c21 : f < 45056
  · exact nbq_f 2048 43008 nbq_21 f (by omega) (by omega)
  by_cases c22 : f < 47104
  · exact nbq_f 2048 45056 nbq_22 f (by omega) (by omega)
  by_cases c23 : f < 49152
  · exact nbq_f 2048 47104 nbq_23 f (by omega) (by omega)
  by_cases c24 : f < 51200
  · exact nbq_f 2048 49152 nbq_24 f (by omega) (by omega)
  by_cases c25 : f < 53248
  · exact nbq_f 2048 51200 nbq_25 f (by omega) (by omega)
  by_cases c26 : f < 55296
  · exact nbq_f 2048 53248 nbq_26 f (by omega) (by omega)
  by_cases c27 : f < 57344
  · exact nbq_f 2048 55296 nbq_27 f (by omega) (by omega)
  by_cases c28 : f < 59392
  · exact nbq_f 2048 57344 nbq_28 f (by omega) (by omega)
  by_cases c29 : f < 61440
  · exact nbq_f 2048 59392 nbq_29 f (by omega) (by omega)
  by_cases c30 : f < 63488
  · exact nbq_f 2048 61440 nbq_30 f (by omega) (by omega)
  by_cases c31 : f < 65536
  · exact nbq_f 2048 63488 nbq_31 f (by omega) (by omega)
  omega
theorem bc16 {f : Nat} (hf : f < 65536) : bc (nI f) = nI (pc16 f) := by
  rw [bc_nbc hf, nbc_pc hf]
theorem c_bitCount16 {f : Nat} (hf : f < 65536) (h : Q (some (.int (nI (pc16 f)))) sh I J P) : MW g false (d + 1) 0 0 m_JInt_bitCount [.int (nI f)] sh I J P Q := by
  refine c_bitCount ?_
  rw [bc16 hf]
  exact h
end Mem2
