section Mod29
variable {g : cp_G} {d : Nat} {sh : cp_H} {I M : cp_I} {J : cp_J} {P : cp_P} {Q : cp_QT} {t u r x : Nat} {T : Nat → Nat} {n p : Nat} {s : pS}
/-! where a line ends -/
theorem p_here_le {a : Nat × pS} (h : p_here T n s = .ok a) : a.2 = s := (p_here_F h).1
theorem p_who_F : ∀ (m z : Nat) (s : pS) (a : Nat × pS), p_who T n m z s = .ok a → a.2.2 = s.2 ∧ s.1 ≤ a.2.1 ∧ (s.2.2.length ≤ 6 → z < 64 → a.1 < 64) ∧ (z < 2 ^ s.2.2.length → a.1 < 2 ^ s.2.2.length)
  | 0, z, s, a, h => by
    simp only [p_who, Except.ok.injEq] at h
    subst h
    exact ⟨rfl, Nat.le_refl _, fun _ h => h, fun h => h⟩
  | m + 1, z, s, a, h => by
    rw [p_who] at h
    split at h
    · cases hb : p_here T n (pnx T n s) with
      | error e => rw [hb] at h; cases h
      | ok b =>
        rw [hb] at h
        simp only [eb_ok] at h
        obtain ⟨b1, b2⟩ := p_here_F hb
        split at h
        · cases h
        · obtain ⟨k1, k2, k3, k4⟩ := p_who_F m _ _ a h
          have e : (pnx T n b.2).2 = s.2 := by rw [b1]; rfl
          have e1 : (pnx T n b.2).1 = te T n (te T n s.1) := by rw [b1]; rfl
          rw [e] at k1 k3 k4
          rw [e1] at k2
          have g1 := te_ge T n s.1
          have g2 := te_ge T n (te T n s.1)
          simp only [pnx] at b2
          refine ⟨k1, by omega, fun h6 hz => k3 h6 (or_lt64 hz (pow_lt64 (by omega))), fun hz => k4 ?_⟩
          exact Nat.or_lt_two_pow hz (Nat.pow_lt_pow_right (by omega) b2)
    · simp only [Except.ok.injEq] at h
      subst h
      exact ⟨rfl, Nat.le_refl _, fun _ h => h, fun h => h⟩
theorem p_name_F {a : pS} (h : p_name T n s = .ok a) : a = (te T n s.1, s.2.1, s.2.2 ++ [wd T n s.1]) ∧ isNm T n s.1 = true ∧ nfind (wd T n s.1) s.2.2 0 = none := by
  unfold p_name at h
  split at h
  · rename_i hi
    cases hf : nfind (wd T n s.1) s.2.2 0 with
    | some b => rw [hf] at h; cases h
    | none =>
      rw [hf] at h
      simp only [Except.ok.injEq] at h
      exact ⟨h.symm, hi, rfl⟩
  · cases h
theorem p_kind_F {a : Nat × pS} (h : p_kind T n s = .ok a) : a.2 = pnx T n s ∧ a.1 ≤ 2 := by
  unfold p_kind at h
  split at h
  · simp only [Except.ok.injEq] at h
    subst h
    exact ⟨rfl, by simp⟩
  · split at h
    · simp only [Except.ok.injEq] at h
      subst h
      exact ⟨rfl, by simp⟩
    · split at h
      · simp only [Except.ok.injEq] at h
        subst h
        exact ⟨rfl, by simp⟩
      · cases h
theorem p_bather_F {a : pS} (h : p_bather T n s = .ok a) : ∃ k v q : Nat, k ≤ 2 ∧ v ≤ 99 ∧ s.1 ≤ q ∧ isNm T n s.1 = true ∧ nfind (wd T n s.1) s.2.2 0 = none ∧ a = (q, upd (upd (upd s.2.1 (10 + 2 * s.2.2.length) (nI k)) (11 + 2 * s.2.2.length) (nI v)) 4 (nI (s.2.2.length + 1)), s.2.2 ++ [wd T n s.1]) := by
  unfold p_bather at h
  cases hn : p_name T n s with
  | error e => rw [hn] at h; cases h
  | ok b =>
    rw [hn] at h
    simp only [eb_ok] at h
    obtain ⟨b1, b2, b3⟩ := p_name_F hn
    cases hk : p_kind T n b with
    | error e => rw [hk] at h; cases h
    | ok k =>
      rw [hk] at h
      simp only [eb_ok] at h
      obtain ⟨k1, k2⟩ := p_kind_F hk
      cases hv : p_after T n w_bears 0 99 (p_set (10 + 2 * s.2.2.length) k) with
      | error e => rw [hv] at h; cases h
      | ok v =>
        rw [hv] at h
        simp only [eb_ok, Except.ok.injEq] at h
        obtain ⟨v1, v2, v3⟩ := p_after_F hv
        refine ⟨k.1, v.1, v.2.1, k2, v3, ?_, b2, b3, ?_⟩
        · rw [v1, p_set, k1, b1]
          simp only [pnx]
          have g1 := te_ge T n s.1
          have g2 := te_ge T n (te T n s.1)
          have g3 := te_ge T n (te T n (te T n s.1))
          have g4 := te_ge T n (te T n (te T n (te T n s.1)))
          omega
        · subst h
          simp only [p_one, p_set, v1, k1, b1, pnx]
theorem p_tie_F {q : Nat} {a : pS} (h : p_tie T n q s = .ok a) : ∃ b c v p : Nat, b < s.2.2.length ∧ c < s.2.2.length ∧ b ≠ c ∧ ¬ (s.2.1 (58 + b)).toNatClampNeg.testBit c = true ∧ 1 ≤ v ∧ v ≤ 9 ∧ s.1 ≤ p ∧ a = (p, p_pair q s.2.1 b c v, s.2.2) := by
  unfold p_tie at h
  cases hb : p_here T n s with
  | error e => rw [hb] at h; cases h
  | ok b =>
    rw [hb] at h
    simp only [eb_ok] at h
    obtain ⟨b1, b2⟩ := p_here_F hb
    cases hc : p_here T n (pnx T n b.2) with
    | error e => rw [hc] at h; cases h
    | ok c =>
      rw [hc] at h
      simp only [eb_ok] at h
      obtain ⟨c1, c2⟩ := p_here_F hc
      rw [b1] at c1 c2
      split at h
      · cases h
      · rename_i hne
        cases hv : p_after T n w_by 1 9 (pnx T n c.2) with
        | error e => rw [hv] at h; cases h
        | ok v =>
          rw [hv] at h
          simp only [eb_ok, Except.ok.injEq] at h
          obtain ⟨v1, v2, v3⟩ := p_after_F hv
          have e2 : c.2.2.1 = s.2.1 := by rw [c1]; rfl
          rw [e2] at hne
          refine ⟨b.1, c.1, v.1, v.2.1, b2, c2, fun e => hne (Or.inl e), fun e => hne (Or.inr e), v2, v3, ?_, ?_⟩
          · rw [v1, c1]
            simp only [pnx]
            have g1 := te_ge T n s.1
            have g2 := te_ge T n (te T n s.1)
            have g3 := te_ge T n (te T n (te T n s.1))
            have g4 := te_ge T n (te T n (te T n (te T n s.1)))
            omega
          · subst h
            simp only [v1, c1, pnx]
theorem p_felt_F {a : pS} (h : p_felt T n s = .ok a) : ∃ v z p : Nat, v ≤ 200 ∧ z < 2 ^ s.2.2.length ∧ s.1 ≤ p ∧ a = (p, upd (upd (upd s.2.1 (76 + 2 * (s.2.1 8).toNatClampNeg) (nI v)) (77 + 2 * (s.2.1 8).toNatClampNeg) (nI z)) 8 (s.2.1 8 + 1), s.2.2) := by
  unfold p_felt at h
  cases hv : p_num T n 0 200 s with
  | error e => rw [hv] at h; cases h
  | ok v =>
    rw [hv] at h
    simp only [eb_ok] at h
    obtain ⟨v1, v2, v3⟩ := p_num_F hv
    cases hz : p_who T n 7 0 v.2 with
    | error e => rw [hz] at h; cases h
    | ok z =>
      rw [hz] at h
      simp only [eb_ok, Except.ok.injEq] at h
      obtain ⟨z1, z2, -, z4⟩ := p_who_F _ _ _ _ hz
      rw [v1] at z1 z2 z4
      have g1 := te_ge T n s.1
      refine ⟨v.1, z.1, z.2.1, v3, z4 (Nat.pow_pos (by omega)), ?_, ?_⟩
      · simp only [pnx] at z2
        omega
      · subst h
        rw [z1]
        rfl
theorem p_head_F {a : pS} (h : p_head T n s = .ok a) : ∃ w c i v p : Nat, w ≤ 60 ∧ c ≤ 9 ∧ i ≤ 30 ∧ v ≤ 100 ∧ s.1 ≤ p ∧ s.2.1 9 = 0 ∧ a = (p, upd (upd (upd (upd (upd s.2.1 0 (nI w)) 1 (nI c)) 2 (nI i)) 3 (nI v)) 9 1, s.2.2) := by
  unfold p_head at h
  split at h
  · rename_i h9
    cases ha : p_after T n w_warm 0 60 (pnx T n s) with
    | error e => rw [ha] at h; cases h
    | ok b =>
      rw [ha] at h
      simp only [eb_ok] at h
      obtain ⟨a1, -, a3⟩ := p_after_F ha
      cases hb : p_after T n w_chill 0 9 (p_set 0 b) with
      | error e => rw [hb] at h; cases h
      | ok c =>
        rw [hb] at h
        simp only [eb_ok] at h
        obtain ⟨b1, -, b3⟩ := p_after_F hb
        cases hc : p_after T n w_ice 0 30 (p_set 1 c) with
        | error e => rw [hc] at h; cases h
        | ok i =>
          rw [hc] at h
          simp only [eb_ok] at h
          obtain ⟨c1, -, c3⟩ := p_after_F hc
          cases hd : p_after T n w_visits 0 100 (p_set 2 i) with
          | error e => rw [hd] at h; cases h
          | ok v =>
            rw [hd] at h
            simp only [eb_ok, Except.ok.injEq] at h
            obtain ⟨d1, -, d3⟩ := p_after_F hd
            refine ⟨b.1, c.1, i.1, v.1, v.2.1, a3, b3, c3, d3, ?_, h9, ?_⟩
            · rw [d1]
              simp only [pnx, p_set, c1, b1, a1]
              have g0 := te_ge T n
              refine Nat.le_trans (g0 s.1) (Nat.le_trans (g0 _) (Nat.le_trans (g0 _) (Nat.le_trans (g0 _) (Nat.le_trans (g0 _) (Nat.le_trans (g0 _) (Nat.le_trans (g0 _) (Nat.le_trans (g0 _) (g0 _))))))))
            · subst h
              simp only [p_one, p_set, d1, c1, b1, a1, pnx]
  · cases h
theorem wf0_pnx (h : wf0 s) : wf0 (pnx T n s) := h
theorem p_line_F {a : pS} (hw : wf0 s) (h : p_line T n s = .ok a) : wf0 a ∧ s.1 ≤ a.1 := by
  obtain ⟨w1, w2, w3, w4, ⟨v7, w71, w72⟩, ⟨v8, w81, w82⟩, w6⟩ := hw
  have g1 := te_ge T n s.1
  have hpair : ∀ (q b c v : Nat), b < s.2.2.length → c < s.2.2.length → ¬ s.2.1 9 = 0 → (q = 0 → v7 < 4) → (q = 0 ∨ q = 1 ∨ q = 2) → ∀ p, wf0 (p, p_pair q s.2.1 b c v, s.2.2) := by
    intro q b c v hb hc h9 hq hq2 p
    obtain ⟨zb, zb1, zb2⟩ := w6 b (by omega)
    obtain ⟨zc, zc1, zc2⟩ := w6 c (by omega)
    have ec : (s.2.1 7).toNatClampNeg = v7 := by rw [w72]; exact ncl (by omega)
    have eb' : s.2.1 (58 + b) ||| nI (2 ^ c) = nI (zb ||| 2 ^ c) := by rw [zb2, or_nI zb1 (pow_lt64 (by omega))]
    have ec' : s.2.1 (58 + c) ||| nI (2 ^ b) = nI (zc ||| 2 ^ b) := by rw [zc2, or_nI zc1 (pow_lt64 (by omega))]
    have hset : ∀ a, a < 6 → ∃ z, z < 64 ∧ (upd (upd s.2.1 (58 + b) (s.2.1 (58 + b) ||| nI (2 ^ c))) (58 + c) (s.2.1 (58 + c) ||| nI (2 ^ b))) (58 + a) = nI z := by
      intro a ha
      by_cases e1 : a = c
      · exact ⟨zc ||| 2 ^ b, or_lt64 zc1 (pow_lt64 (by omega)), by rw [e1, pk_us, ec']⟩
      · by_cases e2 : a = b
        · exact ⟨zb ||| 2 ^ c, or_lt64 zb1 (pow_lt64 (by omega)), by rw [pk_un (by omega), e2, pk_us, eb']⟩
        · obtain ⟨z, z1, z2⟩ := w6 a ha
          exact ⟨z, z1, by rw [pk_un (by omega), pk_un (by omega), z2]⟩
    rcases hq2 with rfl | rfl | rfl
    · rw [p_pair_0, ec]
      refine ⟨w1, ?_, ?_, fun q => ?_, ⟨v7 + 1, by have := hq rfl; omega, ?_⟩, ⟨v8, w81, ?_⟩, fun a ha => ?_⟩
      · simp (disch := omega) only [pk_un, pk_us]
        exact w2
      · simp (disch := omega) only [pk_un, pk_us]
        exact w3
      · simp (disch := omega) only [pk_un, pk_us] at q
        exact absurd q h9
      · simp (disch := omega) only [pk_un, pk_us]
        rw [w72, nI_1]
      · simp (disch := omega) only [pk_un, pk_us]
        exact w82
      · have hv := hq rfl
        simp (disch := omega) only [pk_un, pk_us]
        exact hset a ha
    · rw [p_pair_1]
      refine ⟨w1, ?_, ?_, fun q => ?_, ⟨v7, w71, ?_⟩, ⟨v8, w81, ?_⟩, fun a ha => ?_⟩
      · simp (disch := omega) only [pk_un, pk_us]
        exact w2
      · simp (disch := omega) only [pk_un, pk_us]
        exact w3
      · simp (disch := omega) only [pk_un, pk_us] at q
        exact absurd q h9
      · simp (disch := omega) only [pk_un, pk_us]
        exact w72
      · simp (disch := omega) only [pk_un, pk_us]
        exact w82
      · simp (disch := omega) only [pk_un, pk_us]
        exact hset a ha
    · rw [p_pair_2]
      refine ⟨w1, ?_, ?_, fun q => ?_, ⟨v7, w71, ?_⟩, ⟨v8, w81, ?_⟩, fun a ha => ?_⟩
      · simp (disch := omega) only [pk_un, pk_us]
        exact w2
      · simp (disch := omega) only [pk_un, pk_us]
        exact w3
      · simp (disch := omega) only [pk_un, pk_us] at q
        exact absurd q h9
      · simp (disch := omega) only [pk_un, pk_us]
        exact w72
      · simp (disch := omega) only [pk_un, pk_us]
        exact w82
      · simp (disch := omega) only [pk_un, pk_us]
        exact hset a ha
  have q4 : (nI 4 : Int32) = 4 := rfl
  unfold p_line at h
  split at h
  · obtain ⟨w, c, i, v, p, -, -, -, -, hp, h9, rfl⟩ := p_head_F h
    refine ⟨⟨w1, ?_, Or.inr ?_, fun q => ?_, ⟨v7, w71, ?_⟩, ⟨v8, w81, ?_⟩, fun a ha => ?_⟩, hp⟩
    · simp (disch := omega) only [pk_un, pk_us]
      exact w2
    · simp (disch := omega) only [pk_un, pk_us]
    · exact w4 h9
    · simp (disch := omega) only [pk_un, pk_us]
      exact w72
    · simp (disch := omega) only [pk_un, pk_us]
      exact w82
    · simp (disch := omega) only [pk_un, pk_us]
      exact w6 a ha
  · split at h
    · split at h
      · cases h
      · rename_i h9
        split at h
        · split at h
          · rename_i hl
            obtain ⟨k, v, q, -, -, hp, -, -, rfl⟩ := p_bather_F h
            have hl' : s.2.2.length < 6 := hl
            have ep : (pnx T n s).2 = s.2 := rfl
            simp only [ep] at hp ⊢
            refine ⟨⟨?_, ?_, ?_, fun q => ?_, ⟨v7, w71, ?_⟩, ⟨v8, w81, ?_⟩, fun a ha => ?_⟩, ?_⟩
            · simp
              omega
            · simp (disch := omega) only [pk_un, pk_us]
              simp
            · simp (disch := omega) only [pk_un, pk_us]
              exact w3
            · simp (disch := omega) only [pk_un, pk_us] at q
              exact absurd q h9
            · simp (disch := omega) only [pk_un, pk_us]
              exact w72
            · simp (disch := omega) only [pk_un, pk_us]
              exact w82
            · simp (disch := omega) only [pk_un, pk_us]
              exact w6 a ha
            · simp only [pnx] at hp
              exact Nat.le_trans g1 hp
          · cases h
        · split at h
          · obtain ⟨b, c, v, p, hb, hc, -, -, -, -, hp, rfl⟩ := p_tie_F h
            exact ⟨hpair 1 b c v hb hc h9 (by omega) (by omega) p, Nat.le_trans g1 hp⟩
          · split at h
            · obtain ⟨b, c, v, p, hb, hc, -, -, -, -, hp, rfl⟩ := p_tie_F h
              exact ⟨hpair 2 b c v hb hc h9 (by omega) (by omega) p, Nat.le_trans g1 hp⟩
            · split at h
              · split at h
                · cases h
                · rename_i h7
                  obtain ⟨b, c, v, p, hb, hc, -, -, -, -, hp, rfl⟩ := p_tie_F h
                  refine ⟨hpair 0 b c v hb hc h9 (fun _ => ?_) (by omega) p, Nat.le_trans g1 hp⟩
                  rcases Nat.lt_or_ge v7 4 with z | z
                  · exact z
                  · have : v7 = 4 := by omega
                    rw [this] at w72
                    exact absurd w72 h7
              · split at h
                · cases h
                · rename_i h8
                  obtain ⟨v, z, p, -, -, hp, rfl⟩ := p_felt_F h
                  have h84 : v8 < 4 := by
                    rcases Nat.lt_or_ge v8 4 with z | z
                    · exact z
                    · have : v8 = 4 := by omega
                      rw [this] at w82
                      exact absurd w82 h8
                  have ep : (pnx T n s).2 = s.2 := rfl
                  have ec : (s.2.1 8).toNatClampNeg = v8 := by rw [w82]; exact ncl (by omega)
                  simp only [ep, ec] at hp ⊢
                  refine ⟨⟨w1, ?_, ?_, fun q => ?_, ⟨v7, w71, ?_⟩, ⟨v8 + 1, by omega, ?_⟩, fun a ha => ?_⟩, Nat.le_trans g1 hp⟩
                  · simp (disch := omega) only [pk_un, pk_us]
                    exact w2
                  · simp (disch := omega) only [pk_un, pk_us]
                    exact w3
                  · simp (disch := omega) only [pk_un, pk_us] at q
                    exact absurd q h9
                  · simp (disch := omega) only [pk_un, pk_us]
                    exact w72
                  · simp (disch := omega) only [pk_un, pk_us]
                    rw [w82, nI_1]
                  · simp (disch := omega) only [pk_un, pk_us]
                    exact w6 a ha
    · cases h
end Mod29
