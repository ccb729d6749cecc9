theorem t_hasBit {g : cp_G} {d : Nat} {a b : Int32} {sh : cp_H} {I : cp_I} {J : cp_J} {P : cp_P} {Q : cp_QT} (h : Q (some (.int (if (a >>> (b &&& 31)) &&& 1 = 1 then 1 else 0))) sh I J P) : MW g false (d + 1) 0 0 m_Mod_hasBit [.int a, .int b] sh I J P Q := by
  refine MW.of ok_Mod_hasBit (by decide) ?_
  refine cp_run 30 (fun _ => false) ck_Mod_hasBit ?_
  simp only [bl_Mod_hasBit, cp_jl, b_Mod_hasBit_0, cp_vc, cp_vs, if_true]
  trace_state
  sorry
