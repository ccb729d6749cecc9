def b_JPre_checkIndex_0 : List cp_AI := [(0, .iload_n 0, 1, [0], [], 0, 0, cp_m0), (1, .ifCond .lt 8, 3, [9], [], 0, 0, cp_m0), (4, .iload_n 0, 1, [0], [], 0, 0, cp_m0), (5, .iload_n 1, 1, [1], [], 0, 0, cp_m0), (6, .if_icmp .lt 10, 3, [16], [], 0, 0, cp_m0), (9, .nop, 0, [], [], 0, 0, cp_m0)]
def b_JPre_checkIndex_9 : List cp_AI := [(9, .aload_n 2, 1, [2], [], 0, 0, cp_m0), (10, .iload_n 0, 1, [0], [], 0, 0, cp_m0), (11, .iload_n 1, 1, [1], [], 0, 0, cp_m0), (12, .nop, 0, [], [], 0, 0, cp_m0)]
def b_JPre_checkIndex_16 : List cp_AI := [(16, .iload_n 0, 1, [0], [], 0, 0, cp_m0), (17, .ireturn, 1, [0], [], 0, 0, cp_m0)]
def bl_JPre_checkIndex : List (Nat × List cp_AI) := [(0, b_JPre_checkIndex_0), (9, b_JPre_checkIndex_9), (16, b_JPre_checkIndex_16)]
set_option maxRecDepth 100000 in
theorem ck_JPre_checkIndex : cp_bl m_JPre_checkIndex bl_JPre_checkIndex = true := by decide +kernel
