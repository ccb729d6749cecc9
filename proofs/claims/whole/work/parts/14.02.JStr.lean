def b_JStr_length_0 : List cp_AI := [(0, .aload_n 0, 1, [0], [], 0, 0, cp_m0), (1, .getfield 9, 3, [0], [2077], 0, 0, cp_m0), (4, .arraylength, 1, [1], [], 0, 0, cp_m0), (5, .aload_n 0, 1, [0], [], 0, 0, cp_m0), (6, .invokevirtual 335, 3, [0], [532, 533, 534], 0, 0, m_JStr_coder), (9, .ishr, 1, [], [], 0, 0, cp_m0), (10, .ireturn, 1, [0], [], 0, 0, cp_m0)]
def bl_JStr_length : List (Nat × List cp_AI) := [(0, b_JStr_length_0)]
set_option maxRecDepth 100000 in
theorem ck_JStr_length : cp_bl m_JStr_length bl_JStr_length = true := by decide +kernel
def b_JStr_charAt_0 : List cp_AI := [(0, .aload_n 0, 1, [0], [], 0, 0, cp_m0), (1, .invokevirtual 492, 3, [0], [542, 543, 544], 0, 0, m_JStr_isLatin1), (4, .ifCond .eq 12, 3, [16], [], 0, 0, cp_m0), (7, .aload_n 0, 1, [0], [], 0, 0, cp_m0), (8, .getfield 9, 3, [0], [2077], 0, 0, cp_m0), (11, .iload_n 1, 1, [1], [], 0, 0, cp_m0), (12, .invokestatic 495, 3, [0, 2, 0, 0], [546, 547], 0, 0, m_JLat_charAt), (15, .ireturn, 1, [3], [], 0, 0, cp_m0)]
def b_JStr_charAt_16 : List cp_AI := [(16, .aload_n 0, 1, [0], [], 0, 0, cp_m0), (17, .getfield 9, 3, [0], [2077], 0, 0, cp_m0), (20, .iload_n 1, 1, [1], [], 0, 0, cp_m0), (21, .invokestatic 498, 3, [0, 2, 0, 0], [557, 558], 0, 0, m_JUtf_charAt), (24, .ireturn, 1, [3], [], 0, 0, cp_m0)]
def bl_JStr_charAt : List (Nat × List cp_AI) := [(0, b_JStr_charAt_0), (16, b_JStr_charAt_16)]
set_option maxRecDepth 100000 in
theorem ck_JStr_charAt : cp_bl m_JStr_charAt bl_JStr_charAt = true := by decide +kernel
def b_JStr_coder_0 : List cp_AI := [(0, .getstatic 38, 3, [0], [536], 0, 0, cp_m0), (3, .ifCond .eq 10, 3, [13], [], 0, 0, cp_m0), (6, .aload_n 0, 1, [0], [], 0, 0, cp_m0), (7, .getfield 15, 3, [1], [2078], 0, 0, cp_m0), (10, .goto 4, 3, [14], [], 0, 0, cp_m0)]
def b_JStr_coder_13 : List cp_AI := [(13, .iconst 1, 1, [], [], 1, 0, cp_m0), (14, .nop, 0, [], [], 0, 0, cp_m0)]
def b_JStr_coder_14 : List cp_AI := [(14, .ireturn, 1, [2], [], 0, 0, cp_m0)]
def bl_JStr_coder : List (Nat × List cp_AI) := [(0, b_JStr_coder_0), (13, b_JStr_coder_13), (14, b_JStr_coder_14)]
set_option maxRecDepth 100000 in
theorem ck_JStr_coder : cp_bl m_JStr_coder bl_JStr_coder = true := by decide +kernel
def b_JStr_isLatin1_0 : List cp_AI := [(0, .getstatic 38, 3, [0], [536], 0, 0, cp_m0), (3, .ifCond .eq 14, 3, [17], [], 0, 0, cp_m0), (6, .aload_n 0, 1, [0], [], 0, 0, cp_m0), (7, .getfield 15, 3, [1], [2078], 0, 0, cp_m0), (10, .ifCond .ne 7, 3, [17], [], 0, 0, cp_m0), (13, .iconst 1, 1, [], [], 1, 0, cp_m0), (14, .goto 4, 3, [18], [], 0, 0, cp_m0)]
def b_JStr_isLatin1_17 : List cp_AI := [(17, .iconst 0, 1, [], [], 0, 0, cp_m0), (18, .nop, 0, [], [], 0, 0, cp_m0)]
def b_JStr_isLatin1_18 : List cp_AI := [(18, .ireturn, 1, [1], [], 0, 0, cp_m0)]
def bl_JStr_isLatin1 : List (Nat × List cp_AI) := [(0, b_JStr_isLatin1_0), (17, b_JStr_isLatin1_17), (18, b_JStr_isLatin1_18)]
set_option maxRecDepth 100000 in
theorem ck_JStr_isLatin1 : cp_bl m_JStr_isLatin1 bl_JStr_isLatin1 = true := by decide +kernel
def b_JStr_checkIndex_0 : List cp_AI := [(0, .iload_n 0, 1, [0], [], 0, 0, cp_m0), (1, .iload_n 1, 1, [1], [], 0, 0, cp_m0), (2, .getstatic 1053, 3, [1], [552], 0, 0, cp_m0), (5, .invokestatic 1059, 3, [0, 3, 0, 0], [554, 555], 0, 0, m_JPre_checkIndex), (8, .pop, 1, [], [], 0, 0, cp_m0), (9, .return_, 1, [], [], 0, 0, cp_m0)]
def bl_JStr_checkIndex : List (Nat × List cp_AI) := [(0, b_JStr_checkIndex_0)]
set_option maxRecDepth 100000 in
theorem ck_JStr_checkIndex : cp_bl m_JStr_checkIndex bl_JStr_checkIndex = true := by decide +kernel
