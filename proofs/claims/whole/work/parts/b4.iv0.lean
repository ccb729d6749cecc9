section Start
/-! THE INVARIANT AT THE START -/
theorem zm_at (a k : Nat) (h : ¬ (a = 44 ∧ k = 10)) : Zm a k = 0 := by
  unfold Zm
  rw [cp_u_at, if_neg h]
  rfl
theorem zm_fn (a : Nat) (h : a ≠ 44) : Zm a = fun _ => 0 := funext fun k => zm_at a k (fun z => h z.1)
theorem iv_start : Iv Zm 16 2 := by
  refine ⟨⟨0, 0, 0, ⟨Or.inr rfl, by omega, zm_at _ _ (by omega), zm_at _ _ (by omega), ?_, ?_, ⟨0, by omega, zm_at _ _ (by omega)⟩, ⟨0, by omega, zm_at _ _ (by omega)⟩, by omega, ?_, zm_at _ _ (by omega), zm_at _ _ (by omega), ?_, ?_, fun j => zm_at _ _ (by omega)⟩, ⟨0, 0, 0, by omega, by omega, by omega, zm_at _ _ (by omega), zm_at _ _ (by omega), zm_at _ _ (by omega), zm_at _ _ (by omega), zm_at _ _ (by omega), fun j hj => absurd hj (Nat.not_lt_zero _), fun j hj => absurd hj (Nat.not_lt_zero _)⟩, ⟨0, fun _ => 0, by omega, zm_at _ _ (by omega), zm_at _ _ (by omega), fun j hj => absurd hj (Nat.not_lt_zero _)⟩, fun _ => ⟨rfl, fun j _ => zm_at _ _ (by omega), zm_at _ _ (by omega), zm_at _ _ (by omega), zm_at _ _ (by omega)⟩, ⟨Or.inl rfl, by omega⟩, ?_⟩, ?_, ?_⟩
  · rw [zm_fn 47 (by omega)]
    exact tw_0
  · unfold cFr
    rw [zm_fn 47 (by omega), zm_fn 16 (by omega)]
    refine ⟨⟨rfl, rfl, rfl, rfl, rfl, rfl, rfl⟩, fun b _ => ⟨zm_at _ _ (by omega), zm_at _ _ (by omega)⟩, fun a b _ _ => zm_at _ _ (by omega), fun b _ => ⟨zm_at _ _ (by omega), zm_at _ _ (by omega), zm_at _ _ (by omega)⟩, fun b _ => ⟨zm_at _ _ (by omega), zm_at _ _ (by omega)⟩, 0, by omega, rfl, fun a b _ _ _ => ?_⟩
    rw [show (0 : Int32).toNatClampNeg = 0 from rfl, Nat.zero_testBit, Nat.zero_testBit]
  · intro i hi
    rw [Nat.zero_testBit] at hi
    cases hi
  · refine ⟨fun a b _ _ => ?_, zm_at _ _ (by omega), ?_, ?_⟩
    · unfold ctm
      rw [if_neg (fun z => by rw [Nat.zero_testBit] at z; cases z.2), zm_at _ _ (by omega), zm_at _ _ (by omega)]
    · rw [zm_at _ _ (by omega)]
      decide +kernel
    · rw [zm_at _ _ (by omega), zm_at _ _ (by omega)]
  · refine ⟨fun i hi => absurd hi (Nat.not_lt_zero _), fun s hs => ?_⟩
    have e : s = 0 := by simpa using hs
    subst e
    rw [grs_0, sum_0, zm_at _ _ (by omega), zm_at _ _ (by omega), zm_at _ _ (by omega)]
    exact ⟨rfl, rfl⟩
  · rw [zm_at _ _ (by omega), zm_at _ _ (by omega)]
  · rw [zm_at _ _ (by omega), zm_at _ _ (by omega)]
  · rw [zm_at _ _ (by omega)]
    intro z
    exact absurd z (by decide)
end Start
