section Text
/-! the text T of n bytes, read from a place p on -/
def wh (c : Nat → Bool) : Nat → Nat → Nat
  | 0, k => k
  | m + 1, k => if c k = true then wh c m (k + 1) else k
theorem wh_ge (c : Nat → Bool) : ∀ m k, k ≤ wh c m k
  | 0, _ => Nat.le_refl _
  | m + 1, k => by
    rw [wh]
    split
    · have := wh_ge c m (k + 1)
      omega
    · omega
theorem wh_le (c : Nat → Bool) : ∀ m k, wh c m k ≤ k + m
  | 0, _ => Nat.le_refl _
  | m + 1, k => by
    rw [wh]
    split
    · have := wh_le c m (k + 1)
      omega
    · omega
theorem wh_mem (c : Nat → Bool) : ∀ m k i, k ≤ i → i < wh c m k → c i = true
  | 0, k, i, h1, h2 => by
    simp only [wh] at h2
    omega
  | m + 1, k, i, h1, h2 => by
    rw [wh] at h2
    split at h2
    · rename_i h
      by_cases e : i = k
      · rw [e]
        exact h
      · exact wh_mem c m (k + 1) i (by omega) h2
    · omega
def isSm (c : Nat) : Bool := decide (97 ≤ c) && decide (c ≤ 122)
def isDg (c : Nat) : Bool := decide (48 ≤ c) && decide (c ≤ 57)
/-- where the token behind p begins -/
def ta (T : Nat → Nat) (n p : Nat) : Nat := wh (fun k => T k == 32) (n - p) p
/-- where a token that begins at a ends -/
def tea (T : Nat → Nat) (n a : Nat) : Nat := if n ≤ a then a else if isSm (T a) = true then wh (fun k => isSm (T k)) (n - a) a else if isDg (T a) = true then wh (fun k => isDg (T k)) (n - a) a else a + 1
/-- its sort: 0 the end, 1 none, 2 a word, 3 a whole, else the sign -/
def tsa (T : Nat → Nat) (n a : Nat) : Nat := if n ≤ a then 0 else if isSm (T a) = true then (if tea T n a - a ≤ 8 then 2 else 1) else if isDg (T a) = true then (if tea T n a - a ≤ 3 then 3 else 1) else if T a = 59 ∨ T a = 44 then T a else 1
def te (T : Nat → Nat) (n p : Nat) : Nat := tea T n (ta T n p)
def ts (T : Nat → Nat) (n p : Nat) : Nat := tsa T n (ta T n p)
/-- the value of the digits from a on -/
def tvf (T : Nat → Nat) (a : Nat) : Nat → Nat
  | 0 => 0
  | k + 1 => 10 * tvf T a k + (T (a + k) - 48)
def tv (T : Nat → Nat) (n p : Nat) : Nat := tvf T (ta T n p) (te T n p - ta T n p)
/-- the letters of the token -/
def wd (T : Nat → Nat) (n p : Nat) : List Nat := (List.range (te T n p - ta T n p)).map (fun k => T (ta T n p + k))
theorem ta_ge (T : Nat → Nat) (n p : Nat) : p ≤ ta T n p := wh_ge _ _ _
theorem ta_le {T : Nat → Nat} {n p : Nat} (h : p ≤ n) : ta T n p ≤ n := by
  have := wh_le (fun k => T k == 32) (n - p) p
  unfold ta
  omega
theorem tea_ge (T : Nat → Nat) (n a : Nat) : a ≤ tea T n a := by
  unfold tea
  split
  · omega
  · split
    · exact wh_ge _ _ _
    · split
      · exact wh_ge _ _ _
      · omega
theorem tea_le {T : Nat → Nat} {n a : Nat} (h : a ≤ n) : tea T n a ≤ n := by
  unfold tea
  split
  · omega
  · split
    · have := wh_le (fun k => isSm (T k)) (n - a) a
      omega
    · split
      · have := wh_le (fun k => isDg (T k)) (n - a) a
        omega
      · omega
theorem te_le {T : Nat → Nat} {n p : Nat} (h : p ≤ n) : te T n p ≤ n := tea_le (ta_le h)
theorem te_ge (T : Nat → Nat) (n p : Nat) : p ≤ te T n p := Nat.le_trans (ta_ge T n p) (tea_ge T n _)
theorem ts2 {T : Nat → Nat} {n p : Nat} (h : ts T n p = 2) : te T n p - ta T n p ≤ 8 ∧ ta T n p < te T n p ∧ te T n p ≤ n ∧ ∀ i, ta T n p ≤ i → i < te T n p → isSm (T i) = true := by
  unfold ts tsa at h
  unfold te
  split at h
  · omega
  · rename_i hn
    split at h
    · rename_i hs
      have e : tea T n (ta T n p) = wh (fun k => isSm (T k)) (n - ta T n p) (ta T n p) := by
        rw [tea, if_neg hn, if_pos hs]
      split at h
      · rename_i h8
        refine ⟨h8, ?_, ?_, ?_⟩
        · rw [e, show n - ta T n p = (n - ta T n p - 1) + 1 by omega, wh, if_pos hs]
          have := wh_ge (fun k => isSm (T k)) (n - ta T n p - 1) (ta T n p + 1)
          omega
        · exact tea_le (by omega)
        · intro i h1 h2
          rw [e] at h2
          exact wh_mem (fun k => isSm (T k)) _ _ i h1 h2
      · omega
    · rename_i hs
      split at h
      · split at h <;> omega
      · split at h
        · omega
        · omega
theorem ts3 {T : Nat → Nat} {n p : Nat} (h : ts T n p = 3) : te T n p - ta T n p ≤ 3 ∧ te T n p ≤ n ∧ ∀ i, ta T n p ≤ i → i < te T n p → isDg (T i) = true := by
  unfold ts tsa at h
  unfold te
  split at h
  · omega
  · rename_i hn
    split at h
    · split at h <;> omega
    · rename_i hs
      split at h
      · rename_i hd
        have e : tea T n (ta T n p) = wh (fun k => isDg (T k)) (n - ta T n p) (ta T n p) := by
          rw [tea, if_neg hn, if_neg hs, if_pos hd]
        split at h
        · rename_i h3
          refine ⟨h3, tea_le (by omega), ?_⟩
          intro i h1 h2
          rw [e] at h2
          exact wh_mem (fun k => isDg (T k)) _ _ i h1 h2
        · omega
      · split at h <;> omega
theorem tvf_lt {T : Nat → Nat} {a : Nat} : ∀ k, (∀ i, i < k → isDg (T (a + i)) = true) → tvf T a k < 10 ^ k
  | 0, _ => by simp [tvf]
  | k + 1, h => by
    have h1 := tvf_lt (T := T) (a := a) k (fun i hi => h i (by omega))
    have h2 := h k (by omega)
    simp only [isDg, Bool.and_eq_true, decide_eq_true_eq] at h2
    rw [tvf, Nat.pow_succ]
    omega
theorem tv_lt {T : Nat → Nat} {n p : Nat} (h : ts T n p = 3) : tv T n p < 1000 := by
  obtain ⟨h1, -, h2⟩ := ts3 h
  have := tvf_lt (T := T) (a := ta T n p) (te T n p - ta T n p) (fun i hi => h2 _ (by omega) (by omega))
  have h3 : 10 ^ (te T n p - ta T n p) ≤ 10 ^ 3 := Nat.pow_le_pow_right (by omega) h1
  unfold tv
  omega
theorem ts0 {T : Nat → Nat} {n p : Nat} (hp : p ≤ n) (h : ¬ ts T n p = 0) : ta T n p < te T n p := by
  unfold ts tsa at h
  unfold te
  by_cases hn : n ≤ ta T n p
  · rw [if_pos hn] at h
    exact absurd rfl h
  · unfold tea
    rw [if_neg hn]
    have e : n - ta T n p = (n - ta T n p - 1) + 1 := by omega
    split
    · rename_i hs
      rw [e, wh, if_pos hs]
      have := wh_ge (fun k => isSm (T k)) (n - ta T n p - 1) (ta T n p + 1)
      omega
    · split
      · rename_i hs
        rw [e, wh, if_pos hs]
        have := wh_ge (fun k => isDg (T k)) (n - ta T n p - 1) (ta T n p + 1)
        omega
      · omega
theorem ts_lt {T : Nat → Nat} {n p : Nat} : ts T n p < 60 := by
  unfold ts tsa
  split
  · omega
  · split
    · split <;> omega
    · split
      · split <;> omega
      · split
        · omega
        · omega
theorem wd_len (T : Nat → Nat) (n p : Nat) : (wd T n p).length = te T n p - ta T n p := by simp [wd]
theorem wd_get {T : Nat → Nat} {n p k : Nat} (h : k < te T n p - ta T n p) : (wd T n p).getD k 0 = T (ta T n p + k) := by
  simp [wd, h]
/-! the reading: an error is a number and a place; else the place read up to, what is told (as in the reference's row), and the names -/
abbrev pS : Type := Nat × (Nat → Int32) × List (List Nat)
abbrev pE : Type := Int32 × Nat
def eb {α β : Type} (x : Except pE α) (f : α → Except pE β) : Except pE β :=
  match x with
  | .error e => .error e
  | .ok a => f a
variable (T : Nat → Nat) (n : Nat)
def pw (p : Nat) (w : List Nat) : Bool := decide (ts T n p = 2) && decide (wd T n p = w)
def w_plunge : List Nat := [112, 108, 117, 110, 103, 101]
def w_bather : List Nat := [98, 97, 116, 104, 101, 114]
def w_knows : List Nat := [107, 110, 111, 119, 115]
def w_foes : List Nat := [102, 111, 101, 115]
def w_unsure : List Nat := [117, 110, 115, 117, 114, 101]
def w_felt : List Nat := [102, 101, 108, 116]
def w_warm : List Nat := [119, 97, 114, 109]
def w_chill : List Nat := [99, 104, 105, 108, 108]
def w_ice : List Nat := [105, 99, 101]
def w_visits : List Nat := [118, 105, 115, 105, 116, 115]
def w_plain : List Nat := [112, 108, 97, 105, 110]
def w_tender : List Nat := [116, 101, 110, 100, 101, 114]
def w_hardy : List Nat := [104, 97, 114, 100, 121]
def w_bears : List Nat := [98, 101, 97, 114, 115]
def w_by : List Nat := [98, 121]
def lnw (p : Nat) : Bool := pw T n p w_plunge || pw T n p w_bather || pw T n p w_knows || pw T n p w_foes || pw T n p w_unsure || pw T n p w_felt
def pnx (s : pS) : pS := (te T n s.1, s.2)
def p_must (w : List Nat) (s : pS) : Except pE pS := if pw T n s.1 w = true then .ok (pnx T n s) else .error (1, ta T n s.1)
def p_num (lo hi : Nat) (s : pS) : Except pE (Nat × pS) := if ts T n s.1 = 3 then (if lo ≤ tv T n s.1 ∧ tv T n s.1 ≤ hi then .ok (tv T n s.1, pnx T n s) else .error (4, ta T n s.1)) else .error (1, ta T n s.1)
def p_after (w : List Nat) (lo hi : Nat) (s : pS) : Except pE (Nat × pS) := eb (p_must T n w s) (p_num T n lo hi)
/-- the number of a name -/
def nfind (w : List Nat) : List (List Nat) → Nat → Option Nat
  | [], _ => none
  | v :: l, b => if v = w then some b else nfind w l (b + 1)
def isNm (p : Nat) : Bool := decide (ts T n p = 2) && !(lnw T n p)
/-- a bather told ahead; he isn't passed -/
def p_here (s : pS) : Except pE (Nat × pS) := if isNm T n s.1 = true then (match nfind (wd T n s.1) s.2.2 0 with
  | some b => .ok (b, s)
  | none => .error (2, ta T n s.1)) else .error (1, ta T n s.1)
def p_name (s : pS) : Except pE pS := if isNm T n s.1 = true then (match nfind (wd T n s.1) s.2.2 0 with
  | some _ => .error (3, ta T n s.1)
  | none => .ok (te T n s.1, s.2.1, s.2.2 ++ [wd T n s.1])) else .error (1, ta T n s.1)
def p_set (j : Nat) (a : Nat × pS) : pS := (a.2.1, upd a.2.2.1 j (nI a.1), a.2.2.2)
def p_one (j : Nat) (v : Int32) (a : pS) : pS := (a.1, upd a.2.1 j v, a.2.2)
def p_head (s : pS) : Except pE pS := if s.2.1 9 = 0 then
  eb (p_after T n w_warm 0 60 (pnx T n s)) (fun a => eb (p_after T n w_chill 0 9 (p_set 0 a)) (fun b => eb (p_after T n w_ice 0 30 (p_set 1 b)) (fun c => eb (p_after T n w_visits 0 100 (p_set 2 c)) (fun e => .ok (p_one 9 1 (p_set 3 e))))))
  else .error (3, ta T n s.1)
def p_kind (s : pS) : Except pE (Nat × pS) := if pw T n s.1 w_plain = true then .ok (0, pnx T n s) else if pw T n s.1 w_tender = true then .ok (1, pnx T n s) else if pw T n s.1 w_hardy = true then .ok (2, pnx T n s) else .error (1, ta T n s.1)
def p_bather (s : pS) : Except pE pS :=
  eb (p_name T n s) (fun a => eb (p_kind T n a) (fun k => eb (p_after T n w_bears 0 99 (p_set (10 + 2 * s.2.2.length) k)) (fun v =>
    .ok (p_one 4 (nI (s.2.2.length + 1)) (p_set (11 + 2 * s.2.2.length) v)))))
/-- a pair: q 1 knows, 2 foes, 0 unsure -/
def p_pair (q : Nat) (F : Nat → Int32) (a b v : Nat) : Nat → Int32 :=
  let G := upd (upd F (58 + a) (F (58 + a) ||| nI (2 ^ b))) (58 + b) (F (58 + b) ||| nI (2 ^ a))
  if q = 0 then upd (upd (upd (upd G (64 + 3 * (F 7).toNatClampNeg) (nI a)) (65 + 3 * (F 7).toNatClampNeg) (nI b)) (66 + 3 * (F 7).toNatClampNeg) (nI v)) 7 (F 7 + 1)
  else if q = 1 then upd (upd (upd G (22 + 6 * a + b) (nI v)) (22 + 6 * b + a) (nI v)) 5 (F 5 + 1)
  else upd (upd (upd G (22 + 6 * a + b) (-nI v)) (22 + 6 * b + a) (-nI v)) 6 (F 6 + 1)
def p_tie (q : Nat) (s : pS) : Except pE pS :=
  eb (p_here T n s) (fun a => eb (p_here T n (pnx T n a.2)) (fun b =>
    if a.1 = b.1 ∨ (b.2.2.1 (58 + a.1)).toNatClampNeg.testBit b.1 = true then .error (3, ta T n b.2.1) else
    eb (p_after T n w_by 1 9 (pnx T n b.2)) (fun v => .ok (v.2.1, p_pair q v.2.2.1 a.1 b.1 v.1, v.2.2.2))))
/-- those who were in: at most m more -/
def p_who : Nat → Nat → pS → Except pE (Nat × pS)
  | 0, z, s => .ok (z, s)
  | m + 1, z, s => if ts T n s.1 = 44 then eb (p_here T n (pnx T n s)) (fun b => if z.testBit b.1 = true then .error (3, ta T n b.2.1) else p_who m (z ||| 2 ^ b.1) (pnx T n b.2)) else .ok (z, s)
def p_felt (s : pS) : Except pE pS :=
  eb (p_num T n 0 200 s) (fun v => eb (p_who T n 7 0 v.2) (fun z => .ok (z.2.1, upd (upd (upd z.2.2.1 (76 + 2 * (s.2.1 8).toNatClampNeg) (nI v.1)) (77 + 2 * (s.2.1 8).toNatClampNeg) (nI z.1)) 8 (z.2.2.1 8 + 1), z.2.2.2)))
def p_line (s : pS) : Except pE pS := if pw T n s.1 w_plunge = true then p_head T n s
  else if lnw T n s.1 = true then (if s.2.1 9 = 0 then .error (6, ta T n s.1)
    else if pw T n s.1 w_bather = true then (if s.2.2.length < 6 then p_bather T n (pnx T n s) else .error (5, ta T n s.1))
    else if pw T n s.1 w_knows = true then p_tie T n 1 (pnx T n s)
    else if pw T n s.1 w_foes = true then p_tie T n 2 (pnx T n s)
    else if pw T n s.1 w_unsure = true then (if s.2.1 7 = 4 then .error (5, ta T n s.1) else p_tie T n 0 (pnx T n s))
    else (if s.2.1 8 = 4 then .error (5, ta T n s.1) else p_felt T n (pnx T n s)))
  else .error (1, ta T n s.1)
/-- line by line: at most m more -/
def p_lines : Nat → pS → Except pE pS
  | 0, s => .ok s
  | m + 1, s => eb (p_line T n s) (fun a => if ts T n a.1 = 59 then p_lines m (pnx T n a) else if ts T n a.1 = 0 then .ok a else .error (1, ta T n a.1))
def p_text : Except pE pS := eb (p_lines T n 901 (0, fun _ => 0, [])) (fun a => if a.2.2.length = 0 then .error (6, ta T n a.1) else .ok a)
end Text
