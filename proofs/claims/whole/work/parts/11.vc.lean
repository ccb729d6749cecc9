/-! THE SYMBOLIC RUN. An entry: place, instruction, its length, numbers for the run, places of its words, an int, a long, the method called. 'nop' of length 0 is a label. -/
abbrev cp_AI : Type := Nat × Instr × Nat × List Nat × List Nat × Int32 × Int64 × cp_M
abbrev cp_K : Type := List cp_AI → Nat → Nat → cp_Lo → List Value → cp_H → cp_I → cp_J → cp_P → Prop
/-- what goes on behind a call -/
def cp_kk (K : cp_K) (rest : List cp_AI) (cells slots : Nat) (L : cp_Lo) (S : List Value) : cp_QT := fun v sh I J P => K rest cells slots L (v.toList ++ S) sh I J P
/-- a jump: to where the run stops, or on -/
abbrev cp_Z : Type := Nat → Nat → Nat → cp_Lo → List Value → cp_H → cp_I → cp_J → cp_P → Prop
def cp_jm (jt : Nat → List cp_AI) (stop : Nat → Bool) (Ps : cp_Z) (K : cp_K) : cp_Z := fun t cells slots L S sh I J P => if stop t = true then Ps t cells slots L S sh I J P else K (jt t) cells slots L S sh I J P
def cp_sw (G : cp_Z) (a : Int32) (cells slots : Nat) (L : cp_Lo) (S : List Value) (sh : cp_H) (I : cp_I) (J : cp_J) (P : cp_P) : Int → List Nat → Prop
  | _, [] => True
  | j, t :: ts => (a.toInt = j → G t cells slots L S sh I J P) ∧ cp_sw G a cells slots L S sh I J P (j + 1) ts
def cp_vs (g : cp_G) (ex : Bool) (dC mc ms : Nat) (G : cp_Z) (Q : cp_QT) (K : cp_K) (x : cp_AI) (rest : List cp_AI) (cells slots : Nat) (L : cp_Lo) (S : List Value) (sh : cp_H) (I : cp_I) (J : cp_J) (P : cp_P) : Prop :=
  match x with
  | (pc, i, _, inf, _, v, w, cal) => match i with
    | .nop => G pc cells slots L S sh I J P
    | .iconst _ => K rest cells slots L (.int v :: S) sh I J P
    | .bipush _ => K rest cells slots L (.int v :: S) sh I J P
    | .sipush _ => K rest cells slots L (.int v :: S) sh I J P
    | .ldc _ => (match inf with
      | [] => K rest cells slots L (.int v :: S) sh I J P
      | [j] => K rest cells slots L (.ref (1000 + j) :: S) sh I J P
      | _ => False)
    | .ldc_w _ => K rest cells slots L (.int v :: S) sh I J P
    | .ldc2_w _ => K rest cells slots L (.long w :: S) sh I J P
    | .lconst _ => K rest cells slots L (.long w :: S) sh I J P
    | .iload _ => (match inf with
      | [j] => (match L j with
        | some (.int x) => K rest cells slots L (.int x :: S) sh I J P
        | _ => False)
      | _ => False)
    | .iload_n _ => (match inf with
      | [j] => (match L j with
        | some (.int x) => K rest cells slots L (.int x :: S) sh I J P
        | _ => False)
      | _ => False)
    | .lload _ => (match inf with
      | [j] => (match L j with
        | some (.long x) => K rest cells slots L (.long x :: S) sh I J P
        | _ => False)
      | _ => False)
    | .lload_n _ => (match inf with
      | [j] => (match L j with
        | some (.long x) => K rest cells slots L (.long x :: S) sh I J P
        | _ => False)
      | _ => False)
    | .aload _ => (match inf with
      | [j] => (match L j with
        | some (.ref x) => K rest cells slots L (.ref x :: S) sh I J P
        | _ => False)
      | _ => False)
    | .aload_n _ => (match inf with
      | [j] => (match L j with
        | some (.ref x) => K rest cells slots L (.ref x :: S) sh I J P
        | _ => False)
      | _ => False)
    | .istore _ => (match inf, S with
      | [j], .int x :: S' => K rest cells slots (cp_s1 L j (.int x)) S' sh I J P
      | _, _ => False)
    | .istore_n _ => (match inf, S with
      | [j], .int x :: S' => K rest cells slots (cp_s1 L j (.int x)) S' sh I J P
      | _, _ => False)
    | .lstore _ => (match inf, S with
      | [j], .long x :: S' => K rest cells slots (cp_s2 L j (.long x)) S' sh I J P
      | _, _ => False)
    | .lstore_n _ => (match inf, S with
      | [j], .long x :: S' => K rest cells slots (cp_s2 L j (.long x)) S' sh I J P
      | _, _ => False)
    | .astore _ => (match inf, S with
      | [j], .ref x :: S' => K rest cells slots (cp_s1 L j (.ref x)) S' sh I J P
      | _, _ => False)
    | .astore_n _ => (match inf, S with
      | [j], .ref x :: S' => K rest cells slots (cp_s1 L j (.ref x)) S' sh I J P
      | _, _ => False)
    | .iinc _ _ => (match inf with
      | [j] => (match L j with
        | some (.int x) => K rest cells slots (cp_s1 L j (.int (x + v))) S sh I J P
        | _ => False)
      | _ => False)
    | .iadd => (match S with
      | .int b :: .int a :: S' => K rest cells slots L (.int (a + b) :: S') sh I J P
      | _ => False)
    | .isub => (match S with
      | .int b :: .int a :: S' => K rest cells slots L (.int (a - b) :: S') sh I J P
      | _ => False)
    | .imul => (match S with
      | .int b :: .int a :: S' => K rest cells slots L (.int (a * b) :: S') sh I J P
      | _ => False)
    | .iand => (match S with
      | .int b :: .int a :: S' => K rest cells slots L (.int (a &&& b) :: S') sh I J P
      | _ => False)
    | .ior => (match S with
      | .int b :: .int a :: S' => K rest cells slots L (.int (a ||| b) :: S') sh I J P
      | _ => False)
    | .ixor => (match S with
      | .int b :: .int a :: S' => K rest cells slots L (.int (a ^^^ b) :: S') sh I J P
      | _ => False)
    | .ishl => (match S with
      | .int b :: .int a :: S' => K rest cells slots L (.int (a <<< (b &&& 31)) :: S') sh I J P
      | _ => False)
    | .ishr => (match S with
      | .int b :: .int a :: S' => K rest cells slots L (.int (a >>> (b &&& 31)) :: S') sh I J P
      | _ => False)
    | .iushr => (match S with
      | .int b :: .int a :: S' => K rest cells slots L (.int ((a.toUInt32 >>> (b.toUInt32 &&& Int32.toUInt32 31)).toInt32) :: S') sh I J P
      | _ => False)
    | .idiv => (match S with
      | .int b :: .int a :: S' => ¬ b = 0 ∧ K rest cells slots L (.int (a / b) :: S') sh I J P
      | _ => False)
    | .irem => (match S with
      | .int b :: .int a :: S' => ¬ b = 0 ∧ K rest cells slots L (.int (a - a / b * b) :: S') sh I J P
      | _ => False)
    | .ladd => (match S with
      | .long b :: .long a :: S' => K rest cells slots L (.long (a + b) :: S') sh I J P
      | _ => False)
    | .lmul => (match S with
      | .long b :: .long a :: S' => K rest cells slots L (.long (a * b) :: S') sh I J P
      | _ => False)
    | .land => (match S with
      | .long b :: .long a :: S' => K rest cells slots L (.long (a &&& b) :: S') sh I J P
      | _ => False)
    | .lor => (match S with
      | .long b :: .long a :: S' => K rest cells slots L (.long (a ||| b) :: S') sh I J P
      | _ => False)
    | .lsub => (match S with
      | .long b :: .long a :: S' => K rest cells slots L (.long (a - b) :: S') sh I J P
      | _ => False)
    | .ldiv => (match S with
      | .long b :: .long a :: S' => ¬ b = 0 ∧ K rest cells slots L (.long (a / b) :: S') sh I J P
      | _ => False)
    | .lrem => (match S with
      | .long b :: .long a :: S' => ¬ b = 0 ∧ K rest cells slots L (.long (a - a / b * b) :: S') sh I J P
      | _ => False)
    | .lshl => (match S with
      | .int b :: .long a :: S' => K rest cells slots L (.long (a <<< (b.toInt64 &&& 63)) :: S') sh I J P
      | _ => False)
    | .lshr => (match S with
      | .int b :: .long a :: S' => K rest cells slots L (.long (a >>> (b.toInt64 &&& 63)) :: S') sh I J P
      | _ => False)
    | .ineg => (match S with
      | .int a :: S' => K rest cells slots L (.int (-a) :: S') sh I J P
      | _ => False)
    | .i2l => (match S with
      | .int a :: S' => K rest cells slots L (.long (a.toInt64) :: S') sh I J P
      | _ => False)
    | .i2b => (match S with
      | .int a :: S' => K rest cells slots L (.int (a.toInt8.toInt32) :: S') sh I J P
      | _ => False)
    | .i2c => (match S with
      | .int a :: S' => K rest cells slots L (.int ((a.toUInt32 % 65536).toInt32) :: S') sh I J P
      | _ => False)
    | .lcmp => (match S with
      | .long b :: .long a :: S' => K rest cells slots L (.int (lg_cmp a b) :: S') sh I J P
      | _ => False)
    | .dup => (match S with
      | a :: S' => a.category = 1 ∧ K rest cells slots L (a :: a :: S') sh I J P
      | _ => False)
    | .dup2 => (match S with
      | a :: b :: S' => a.category = 1 ∧ b.category = 1 ∧ K rest cells slots L (a :: b :: a :: b :: S') sh I J P
      | _ => False)
    | .pop => (match S with
      | a :: S' => a.category = 1 ∧ K rest cells slots L S' sh I J P
      | _ => False)
    | .ifCond cd _ => (match inf, S with
      | [t], .int a :: S' => (match cd with
        | .eq => (a = 0 → G t cells slots L S' sh I J P) ∧ (¬ a = 0 → K rest cells slots L S' sh I J P)
        | .ne => (¬ a = 0 → G t cells slots L S' sh I J P) ∧ (a = 0 → K rest cells slots L S' sh I J P)
        | .lt => (a < 0 → G t cells slots L S' sh I J P) ∧ (¬ a < 0 → K rest cells slots L S' sh I J P)
        | .ge => (0 ≤ a → G t cells slots L S' sh I J P) ∧ (¬ 0 ≤ a → K rest cells slots L S' sh I J P)
        | .gt => (0 < a → G t cells slots L S' sh I J P) ∧ (¬ 0 < a → K rest cells slots L S' sh I J P)
        | .le => (a ≤ 0 → G t cells slots L S' sh I J P) ∧ (¬ a ≤ 0 → K rest cells slots L S' sh I J P))
      | _, _ => False)
    | .if_icmp cd _ => (match inf, S with
      | [t], .int b :: .int a :: S' => (match cd with
        | .eq => (a = b → G t cells slots L S' sh I J P) ∧ (¬ a = b → K rest cells slots L S' sh I J P)
        | .ne => (¬ a = b → G t cells slots L S' sh I J P) ∧ (a = b → K rest cells slots L S' sh I J P)
        | .lt => (a < b → G t cells slots L S' sh I J P) ∧ (¬ a < b → K rest cells slots L S' sh I J P)
        | .ge => (b ≤ a → G t cells slots L S' sh I J P) ∧ (¬ b ≤ a → K rest cells slots L S' sh I J P)
        | .gt => (b < a → G t cells slots L S' sh I J P) ∧ (¬ b < a → K rest cells slots L S' sh I J P)
        | .le => (a ≤ b → G t cells slots L S' sh I J P) ∧ (¬ a ≤ b → K rest cells slots L S' sh I J P))
      | _, _ => False)
    | .goto _ => (match inf with
      | [t] => G t cells slots L S sh I J P
      | _ => False)
    | .tableswitch _ lo hi _ => (match inf, S with
      | td :: ts, .int a :: S' => ((a.toInt < lo ∨ hi < a.toInt) → G td cells slots L S' sh I J P) ∧ cp_sw G a cells slots L S' sh I J P lo ts
      | _, _ => False)
    | .ireturn => (match inf, S with
      | [0], [.int a] => (ex = true → cells = mc) ∧ Q (some (.int a)) sh I J P
      | [1], [.int a] => (a = 0 ∨ a = 1) ∧ (ex = true → cells = mc) ∧ Q (some (.int a)) sh I J P
      | [2], [.int a] => a.toInt8.toInt32 = a ∧ (ex = true → cells = mc) ∧ Q (some (.int a)) sh I J P
      | [3], [.int a] => a.toUInt32.toUInt16.toUInt32.toInt32 = a ∧ (ex = true → cells = mc) ∧ Q (some (.int a)) sh I J P
      | _, _ => False)
    | .lreturn => (match S with
      | [.long a] => (ex = true → cells = mc) ∧ Q (some (.long a)) sh I J P
      | _ => False)
    | .return_ => (match S with
      | [] => (ex = true → cells = mc) ∧ Q none sh I J P
      | _ => False)
    | .getstatic _ => (match inf with
      | [0] => K rest cells slots L (.int 1 :: S) sh I J P
      | [1] => K rest cells slots L (.retAddr 0 :: S) sh I J P
      | _ => False)
    | .getfield _ => (match inf, S with
      | [ci, j, N, 0], .ref a :: S' => cp_sh sh a = (ci + 3, N) ∧ K rest cells slots L (.int (I a j) :: S') sh I J P
      | [ci, j, N, 1], .ref a :: S' => cp_sh sh a = (ci + 3, N) ∧ K rest cells slots L (.long (J a j) :: S') sh I J P
      | [ci, j, N, 2], .ref a :: S' => cp_sh sh a = (ci + 3, N) ∧ K rest cells slots L (P a j :: S') sh I J P
      | [0], .ref a :: S' => 1000 ≤ a ∧ a - 1000 < cp_tx.length ∧ K rest cells slots L (.ref (a + 1000) :: S') sh I J P
      | [1], .ref a :: S' => 1000 ≤ a ∧ a - 1000 < cp_tx.length ∧ K rest cells slots L (.int 0 :: S') sh I J P
      | _, _ => False)
    | .putfield _ => (match inf, S with
      | [ci, j, N, 0], .int x :: .ref a :: S' => cp_sh sh a = (ci + 3, N) ∧ K rest cells slots L S' sh (cp_u I a j x) J P
      | [ci, j, N, 3], .int x :: .ref a :: S' => (x = 0 ∨ x = 1) ∧ cp_sh sh a = (ci + 3, N) ∧ K rest cells slots L S' sh (cp_u I a j x) J P
      | [ci, j, N, 1], .long x :: .ref a :: S' => cp_sh sh a = (ci + 3, N) ∧ K rest cells slots L S' sh I (cp_u J a j x) P
      | [ci, j, N, 2], .ref x :: .ref a :: S' => cp_sh sh a = (ci + 3, N) ∧ K rest cells slots L S' sh I J (cp_u P a j (.ref x))
      | _, _ => False)
    | .iaload => (match inf, S with
      | [], .int i :: .ref a :: S' => (cp_sh sh a).1 = 0 ∧ vp_in i (cp_sh sh a).2 ∧ K rest cells slots L (.int (I a i.toNatClampNeg) :: S') sh I J P
      | [_], .int i :: .ref a :: S' => a = 999 ∧ vp_in i (cp_sc g).2.1 ∧ K rest cells slots L (.int ((cp_sc g).2.2 i.toNatClampNeg) :: S') sh I J P
      | _, _ => False)
    | .baload => (match inf, S with
      | [], .int i :: .ref a :: S' => (cp_sh sh a).1 = 1 ∧ vp_in i (cp_sh sh a).2 ∧ K rest cells slots L (.int (I a i.toNatClampNeg) :: S') sh I J P
      | [_], .int i :: .ref a :: S' => 2000 ≤ a ∧ vp_in i (cp_tx.getD (a - 2000) []).length ∧ K rest cells slots L (.int ((cp_tx.getD (a - 2000) []).getD i.toNatClampNeg 0) :: S') sh I J P
      | _, _ => False)
    | .laload => (match S with
      | .int i :: .ref a :: S' => (cp_sh sh a).1 = 2 ∧ vp_in i (cp_sh sh a).2 ∧ K rest cells slots L (.long (J a i.toNatClampNeg) :: S') sh I J P
      | _ => False)
    | .iastore => (match S with
      | .int x :: .int i :: .ref a :: S' => (cp_sh sh a).1 = 0 ∧ vp_in i (cp_sh sh a).2 ∧ K rest cells slots L S' sh (cp_u I a i.toNatClampNeg x) J P
      | _ => False)
    | .bastore => (match S with
      | .int x :: .int i :: .ref a :: S' => (cp_sh sh a).1 = 1 ∧ vp_in i (cp_sh sh a).2 ∧ K rest cells slots L S' sh (cp_u I a i.toNatClampNeg x.toInt8.toInt32) J P
      | _ => False)
    | .lastore => (match S with
      | .long x :: .int i :: .ref a :: S' => (cp_sh sh a).1 = 2 ∧ vp_in i (cp_sh sh a).2 ∧ K rest cells slots L S' sh I (cp_u J a i.toNatClampNeg x) P
      | _ => False)
    | .arraylength => (match inf, S with
      | [], .ref a :: S' => (cp_sh sh a).1 < 3 ∧ cp_sh sh a ≠ (0, 0) ∧ K rest cells slots L (.int (Int32.ofNat (cp_sh sh a).2) :: S') sh I J P
      | [0], .ref a :: S' => a = 999 ∧ K rest cells slots L (.int (Int32.ofNat (cp_sc g).2.1) :: S') sh I J P
      | [1], .ref a :: S' => 2000 ≤ a ∧ a - 2000 < cp_tx.length ∧ K rest cells slots L (.int (Int32.ofNat (cp_tx.getD (a - 2000) []).length) :: S') sh I J P
      | _, _ => False)
    | .new _ => (match inf with
      | [ci, N] => ex = true ∧ sh.length < 500 ∧ cells + 1 ≤ mc ∧ slots + N ≤ ms ∧ K rest (cells + 1) (slots + N) L (.ref sh.length :: S) (sh ++ [(ci + 3, N)]) (cp_c I sh.length 0) (cp_c J sh.length 0) (cp_c P sh.length .null)
      | _ => False)
    | .newarray _ => (match inf, S with
      | [cd], .int n :: S' => ex = true ∧ ¬ n < 0 ∧ n.toNatClampNeg ≤ 65536 ∧ sh.length < 500 ∧ cells + 1 ≤ mc ∧ slots + n.toNatClampNeg ≤ ms ∧ K rest (cells + 1) (slots + n.toNatClampNeg) L (.ref sh.length :: S') (sh ++ [(cd, n.toNatClampNeg)]) (cp_c I sh.length 0) (cp_c J sh.length 0) (cp_c P sh.length .null)
      | _, _ => False)
    | .invokevirtual _ => (match inf with
      | [n, ci, N, mcC, msC] => (match cp_pop n [] S with
        | some (as, .ref b :: S') => S'.length ≤ 4 ∧ cp_sh sh b = (ci + 3, N) ∧ cells + mcC ≤ mc ∧ slots + msC ≤ ms ∧ MW g ex dC mcC msC cal (.ref b :: as) sh I J P (cp_kk K rest (cells + mcC) (slots + msC) L S')
        | _ => False)
      | [n] => (match cp_pop n [] S with
        | some (as, .ref b :: S') => S'.length ≤ 4 ∧ 1000 ≤ b ∧ b - 1000 < cp_tx.length ∧ MW g ex dC 0 0 cal (.ref b :: as) sh I J P (cp_kk K rest cells slots L S')
        | _ => False)
      | _ => False)
    | .invokestatic _ => (match inf with
      | [_, n, mcC, msC] => (match cp_pop n [] S with
        | some (as, S') => S'.length ≤ 4 ∧ cells + mcC ≤ mc ∧ slots + msC ≤ ms ∧ MW g ex dC mcC msC cal as sh I J P (cp_kk K rest (cells + mcC) (slots + msC) L S')
        | _ => False)
      | [0] => (match S with
        | .int b :: .int a :: S' => S'.length ≤ 4 ∧ K rest cells slots L (.int (if a < b then b else a) :: S') sh I J P
        | _ => False)
      | [1] => (match S with
        | .int b :: .int a :: S' => S'.length ≤ 4 ∧ K rest cells slots L (.int (if b < a then b else a) :: S') sh I J P
        | _ => False)
      | _ => False)
    | .invokespecial _ => (match inf with
      | [_, n, mcC, msC] => (match cp_pop n [] S with
        | some (as, .ref b :: S') => S'.length ≤ 4 ∧ cells + mcC ≤ mc ∧ slots + msC ≤ ms ∧ MW g ex dC mcC msC cal (.ref b :: as) sh I J P (cp_kk K rest (cells + mcC) (slots + msC) L S')
        | _ => False)
      | [] => (match S with
        | .ref _ :: S' => S'.length ≤ 4 ∧ K rest cells slots L S' sh I J P
        | _ => False)
      | _ => False)
    | _ => False
def cp_vc (g : cp_G) (ex : Bool) (dC mc ms : Nat) (jt : Nat → List cp_AI) (stop : Nat → Bool) (Ps : cp_Z) (Q : cp_QT) : Nat → cp_K
  | 0, _, _, _, _, _, _, _, _, _ => False
  | _ + 1, [], _, _, _, _, _, _, _, _ => False
  | n + 1, x :: rest, cells, slots, L, S, sh, I, J, P => cp_vs g ex dC mc ms (cp_jm jt stop Ps (cp_vc g ex dC mc ms jt stop Ps Q n)) Q (cp_vc g ex dC mc ms jt stop Ps Q n) x rest cells slots L S sh I J P
