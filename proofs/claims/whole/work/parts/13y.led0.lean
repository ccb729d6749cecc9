/-! entries of the two methods that an exception goes through -/
def m_CP_led : cp_M := (⟨"ColdPlunge", "led", "(I)I"⟩, prog_1_method_63_code, 3, some .int)
def m_Law_led : cp_M := (⟨"ColdPlungeLaw", "led", "(LColdPlunge;I[J)I"⟩, method_3_code, 4, some .int)
theorem ok_CP_led : cp_ok m_CP_led := ⟨List.mem_filter.mpr ⟨List.mem_of_getElem? (i := 1310) (by decide +kernel), by decide +kernel⟩, List.mem_filter.mpr ⟨List.mem_of_getElem? (i := 101) (by decide +kernel), by decide +kernel⟩, by decide +kernel, ⟨by decide +kernel, by decide +kernel⟩, by decide +kernel⟩
def b_CP_led_0 : List cp_AI := [(0, .aload_n 0, 1, [0], [], 0, 0, cp_m0), (1, .getfield 32, 3, [10, 7, 14, 2], [430], 0, 0, cp_m0), (4, .iload_n 1, 1, [1], [], 0, 0, cp_m0), (5, .invokevirtual 346, 3, [1, 0, 8, 0, 0], [1311, 1312, 1313], 0, 0, m_Bath_freezingAt), (8, .istore_n 2, 1, [2], [], 0, 0, cp_m0), (9, .iload_n 2, 1, [2], [], 0, 0, cp_m0), (10, .bipush (-2), 2, [], [], -2, 0, cp_m0), (12, .if_icmp .ne 14, 3, [26], [], 0, 0, cp_m0), (15, .nop, 0, [], [], 0, 0, cp_m0)]
def b_CP_led_26 : List cp_AI := [(26, .iload_n 2, 1, [2], [], 0, 0, cp_m0), (27, .ireturn, 1, [0], [], 0, 0, cp_m0)]
def bl_CP_led : List (Nat × List cp_AI) := [(0, b_CP_led_0), (26, b_CP_led_26)]
set_option maxRecDepth 100000 in
theorem ck_CP_led : cp_bl m_CP_led bl_CP_led = true := by decide +kernel
theorem j_CP_led_0 : cp_jl bl_CP_led 0 = b_CP_led_0 := rfl
theorem j_CP_led_26 : cp_jl bl_CP_led 26 = b_CP_led_26 := rfl
def b_Law_led_0 : List cp_AI := [(0, .aload_n 2, 1, [2], [], 0, 0, cp_m0), (1, .iconst 0, 1, [], [], 0, 0, cp_m0), (2, .aload_n 0, 1, [0], [], 0, 0, cp_m0), (3, .iload_n 1, 1, [1], [], 0, 0, cp_m0), (4, .invokevirtual 7, 3, [1, 10, 14, 0, 0], [1307, 1308, 1309], 0, 0, m_CP_led), (7, .i2l, 1, [], [], 0, 0, cp_m0), (8, .lastore, 1, [], [], 0, 0, cp_m0), (9, .goto 6, 3, [15], [], 0, 0, cp_m0)]
def b_Law_led_15 : List cp_AI := [(15, .iconst 0, 1, [], [], 0, 0, cp_m0), (16, .ireturn, 1, [0], [], 0, 0, cp_m0)]
def bl_Law_led : List (Nat × List cp_AI) := [(0, b_Law_led_0), (15, b_Law_led_15)]
set_option maxRecDepth 100000 in
theorem ck_Law_led : cp_bl m_Law_led bl_Law_led = true := by decide +kernel
theorem j_Law_led_0 : cp_jl bl_Law_led 0 = b_Law_led_0 := rfl
theorem j_Law_led_15 : cp_jl bl_Law_led 15 = b_Law_led_15 := rfl
theorem w_Law_led : Jvm.Cond.codeWith m_Law_led.1 m_Law_led.2.1 4 (some .int) [(0, 9, 12, 13)] ∈ cp_WT := List.mem_filter.mpr ⟨List.mem_of_getElem? (i := 1305) (by decide +kernel), by decide +kernel⟩
theorem k_CP_led : cp_k m_CP_led = 1 := by decide +kernel
theorem k_Law_led : cp_k m_Law_led = 3 := by decide +kernel
