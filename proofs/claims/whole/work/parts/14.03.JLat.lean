def b_JLat_charAt_0 : List cp_AI := [(0, .iload_n 1, 1, [1], [], 0, 0, cp_m0), (1, .aload_n 0, 1, [0], [], 0, 0, cp_m0), (2, .arraylength, 1, [1], [], 0, 0, cp_m0), (3, .invokestatic 9, 3, [0, 2, 0, 0], [549, 550], 0, 0, m_JStr_checkIndex), (6, .aload_n 0, 1, [0], [], 0, 0, cp_m0), (7, .iload_n 1, 1, [1], [], 0, 0, cp_m0), (8, .baload, 1, [1], [], 0, 0, cp_m0), (9, .sipush 255, 3, [], [], 255, 0, cp_m0), (12, .iand, 1, [], [], 0, 0, cp_m0), (13, .i2c, 1, [], [], 0, 0, cp_m0), (14, .ireturn, 1, [3], [], 0, 0, cp_m0)]
def bl_JLat_charAt : List (Nat × List cp_AI) := [(0, b_JLat_charAt_0)]
set_option maxRecDepth 100000 in
theorem ck_JLat_charAt : cp_bl m_JLat_charAt bl_JLat_charAt = true := by decide +kernel
