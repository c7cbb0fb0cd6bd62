/-! blocks of instructions, and that they are the code -/
def k_X0_init_0 : List mj_O := [(4, 0, 0, 0, []), (70, 10, 0, 0, []), (4, 0, 0, 0, []), (1, 0, 0, 0, []), (52, 0, 0, 0, []), (4, 0, 0, 0, []), (1, 0, 0, 0, []), (52, 0, 1, 0, []), (4, 0, 0, 0, []), (1, 0, 0, 0, []), (52, 0, 2, 0, []), (4, 0, 0, 0, []), (1, 0, 0, 1, []), (52, 0, 3, 0, []), (4, 0, 0, 0, []), (1, 0, 0, 0, []), (52, 0, 4, 0, []), (82, 0, 0, 0, [])]
theorem h_X0_init_0 : mj_ch 0 cX0_init 0 k_X0_init_0 30 = true := by decide +kernel
def k_X0_copyFrom_0 : List mj_O := [(4, 0, 0, 0, []), (4, 1, 0, 0, []), (50, 0, 0, 0, []), (52, 0, 0, 0, []), (4, 0, 0, 0, []), (4, 1, 0, 0, []), (50, 0, 1, 0, []), (52, 0, 1, 0, []), (4, 0, 0, 0, []), (4, 1, 0, 0, []), (50, 0, 2, 0, []), (52, 0, 2, 0, []), (4, 0, 0, 0, []), (4, 1, 0, 0, []), (50, 0, 3, 0, []), (52, 0, 3, 0, []), (4, 0, 0, 0, []), (4, 1, 0, 0, []), (50, 0, 4, 0, []), (52, 0, 4, 0, []), (82, 0, 0, 0, [])]
theorem h_X0_copyFrom_0 : mj_ch 0 cX0_copyFrom 0 k_X0_copyFrom_0 41 = true := by decide +kernel
def k_X0_beAs_0 : List mj_O := [(4, 1, 0, 0, []), (2, 102, 0, 0, []), (2, 103, 0, 0, []), (70, 104, 0, 0, []), (30, 19, 0, 0, []), (4, 1, 0, 0, []), (65, 0, 0, 0, []), (1, 0, 0, 5, []), (39, 21, 0, 0, [])]
theorem h_X0_beAs_0 : mj_ch 0 cX0_beAs 0 k_X0_beAs_0 19 = true := by decide +kernel
def k_X0_beAs_19 : List mj_O := [(1, 0, 0, 0, []), (80, 0, 0, 0, [])]
theorem h_X0_beAs_19 : mj_ch 0 cX0_beAs 19 k_X0_beAs_19 21 = true := by decide +kernel
def k_X0_beAs_21 : List mj_O := [(4, 0, 0, 0, []), (4, 1, 0, 0, []), (1, 0, 0, 0, []), (60, 0, 0, 0, []), (52, 0, 0, 0, []), (4, 0, 0, 0, []), (4, 1, 0, 0, []), (1, 0, 0, 1, []), (60, 0, 0, 0, []), (52, 0, 1, 0, []), (4, 0, 0, 0, []), (4, 1, 0, 0, []), (1, 0, 0, 2, []), (60, 0, 0, 0, []), (52, 0, 2, 0, []), (4, 0, 0, 0, []), (4, 1, 0, 0, []), (1, 0, 0, 3, []), (60, 0, 0, 0, []), (52, 0, 3, 0, []), (4, 0, 0, 0, []), (4, 1, 0, 0, []), (1, 0, 0, 4, []), (60, 0, 0, 0, []), (52, 0, 4, 0, []), (1, 0, 0, 1, []), (80, 0, 0, 0, [])]
theorem h_X0_beAs_21 : mj_ch 0 cX0_beAs 21 k_X0_beAs_21 58 = true := by decide +kernel
def k_X0_partOf_0 : List mj_O := [(3, 1, 0, 0, []), (43, 52, 0, 0, [(0, 32), (1, 37), (2, 42), (3, 47)])]
theorem h_X0_partOf_0 : mj_ch 0 cX0_partOf 0 k_X0_partOf_0 32 = true := by decide +kernel
def k_X0_partOf_32 : List mj_O := [(4, 0, 0, 0, []), (50, 0, 0, 0, []), (80, 0, 0, 0, [])]
theorem h_X0_partOf_32 : mj_ch 0 cX0_partOf 32 k_X0_partOf_32 37 = true := by decide +kernel
def k_X0_partOf_37 : List mj_O := [(4, 0, 0, 0, []), (50, 0, 1, 0, []), (80, 0, 0, 0, [])]
theorem h_X0_partOf_37 : mj_ch 0 cX0_partOf 37 k_X0_partOf_37 42 = true := by decide +kernel
def k_X0_partOf_42 : List mj_O := [(4, 0, 0, 0, []), (50, 0, 2, 0, []), (80, 0, 0, 0, [])]
theorem h_X0_partOf_42 : mj_ch 0 cX0_partOf 42 k_X0_partOf_42 47 = true := by decide +kernel
def k_X0_partOf_47 : List mj_O := [(4, 0, 0, 0, []), (50, 0, 3, 0, []), (80, 0, 0, 0, [])]
theorem h_X0_partOf_47 : mj_ch 0 cX0_partOf 47 k_X0_partOf_47 52 = true := by decide +kernel
def k_X0_partOf_52 : List mj_O := [(4, 0, 0, 0, []), (50, 0, 4, 0, []), (80, 0, 0, 0, [])]
theorem h_X0_partOf_52 : mj_ch 0 cX0_partOf 52 k_X0_partOf_52 57 = true := by decide +kernel
def k_X0_put_0 : List mj_O := [(4, 0, 0, 0, []), (3, 1, 0, 0, []), (70, 114, 0, 0, []), (5, 3, 0, 0, []), (3, 1, 0, 0, []), (1, 0, 0, 2, []), (37, 19, 0, 0, []), (4, 0, 0, 0, []), (3, 2, 0, 0, []), (52, 0, 2, 0, []), (42, 29, 0, 0, [])]
theorem h_X0_put_0 : mj_ch 0 cX0_put 0 k_X0_put_0 19 = true := by decide +kernel
def k_X0_put_19 : List mj_O := [(3, 1, 0, 0, []), (1, 0, 0, 3, []), (37, 29, 0, 0, []), (4, 0, 0, 0, []), (3, 2, 0, 0, []), (52, 0, 3, 0, [])]
theorem h_X0_put_19 : mj_ch 0 cX0_put 19 k_X0_put_19 29 = true := by decide +kernel
def k_X0_put_29 : List mj_O := [(3, 3, 0, 0, []), (80, 0, 0, 0, [])]
theorem h_X0_put_29 : mj_ch 0 cX0_put 29 k_X0_put_29 31 = true := by decide +kernel
def k_X0_wakes_0 : List mj_O := [(4, 0, 0, 0, []), (50, 0, 0, 0, []), (43, 68, 0, 0, [(2, 32), (3, 49)])]
theorem h_X0_wakes_0 : mj_ch 0 cX0_wakes 0 k_X0_wakes_0 32 = true := by decide +kernel
def k_X0_wakes_32 : List mj_O := [(4, 0, 0, 0, []), (50, 0, 4, 0, []), (1, 0, 0, 8, []), (10, 0, 0, 0, []), (3, 2, 0, 0, []), (38, 47, 0, 0, []), (1, 0, 0, 1, []), (42, 48, 0, 0, [])]
theorem h_X0_wakes_32 : mj_ch 0 cX0_wakes 32 k_X0_wakes_32 47 = true := by decide +kernel
def k_X0_wakes_47 : List mj_O := [(1, 0, 0, 0, [])]
theorem h_X0_wakes_47 : mj_ch 0 cX0_wakes 47 k_X0_wakes_47 48 = true := by decide +kernel
def k_X0_wakes_48 : List mj_O := [(80, 0, 0, 0, [])]
theorem h_X0_wakes_48 : mj_ch 0 cX0_wakes 48 k_X0_wakes_48 49 = true := by decide +kernel
def k_X0_wakes_49 : List mj_O := [(4, 0, 0, 0, []), (50, 0, 4, 0, []), (3, 1, 0, 0, []), (1, 0, 0, 10, []), (13, 0, 0, 0, []), (10, 0, 0, 0, []), (3, 2, 0, 0, []), (38, 66, 0, 0, []), (1, 0, 0, 1, []), (42, 67, 0, 0, [])]
theorem h_X0_wakes_49 : mj_ch 0 cX0_wakes 49 k_X0_wakes_49 66 = true := by decide +kernel
def k_X0_wakes_66 : List mj_O := [(1, 0, 0, 0, [])]
theorem h_X0_wakes_66 : mj_ch 0 cX0_wakes 66 k_X0_wakes_66 67 = true := by decide +kernel
def k_X0_wakes_67 : List mj_O := [(80, 0, 0, 0, [])]
theorem h_X0_wakes_67 : mj_ch 0 cX0_wakes 67 k_X0_wakes_67 68 = true := by decide +kernel
def k_X0_wakes_68 : List mj_O := [(4, 0, 0, 0, []), (50, 0, 4, 0, []), (3, 2, 0, 0, []), (38, 80, 0, 0, []), (1, 0, 0, 1, []), (42, 81, 0, 0, [])]
theorem h_X0_wakes_68 : mj_ch 0 cX0_wakes 68 k_X0_wakes_68 80 = true := by decide +kernel
def k_X0_wakes_80 : List mj_O := [(1, 0, 0, 0, [])]
theorem h_X0_wakes_80 : mj_ch 0 cX0_wakes 80 k_X0_wakes_80 81 = true := by decide +kernel
def k_X0_wakes_81 : List mj_O := [(80, 0, 0, 0, [])]
theorem h_X0_wakes_81 : mj_ch 0 cX0_wakes 81 k_X0_wakes_81 82 = true := by decide +kernel
def k_X0_mayPress_0 : List mj_O := [(4, 0, 0, 0, []), (50, 0, 0, 0, []), (43, 52, 0, 0, [(1, 40), (2, 40), (3, 52), (4, 52), (5, 50)])]
theorem h_X0_mayPress_0 : mj_ch 0 cX0_mayPress 0 k_X0_mayPress_0 40 = true := by decide +kernel
def k_X0_mayPress_40 : List mj_O := [(3, 1, 0, 0, []), (31, 48, 0, 0, []), (1, 0, 0, 1, []), (42, 49, 0, 0, [])]
theorem h_X0_mayPress_40 : mj_ch 0 cX0_mayPress 40 k_X0_mayPress_40 48 = true := by decide +kernel
def k_X0_mayPress_48 : List mj_O := [(1, 0, 0, 0, [])]
theorem h_X0_mayPress_48 : mj_ch 0 cX0_mayPress 48 k_X0_mayPress_48 49 = true := by decide +kernel
def k_X0_mayPress_49 : List mj_O := [(80, 0, 0, 0, [])]
theorem h_X0_mayPress_49 : mj_ch 0 cX0_mayPress 49 k_X0_mayPress_49 50 = true := by decide +kernel
def k_X0_mayPress_50 : List mj_O := [(1, 0, 0, 0, []), (80, 0, 0, 0, [])]
theorem h_X0_mayPress_50 : mj_ch 0 cX0_mayPress 50 k_X0_mayPress_50 52 = true := by decide +kernel
def k_X0_mayPress_52 : List mj_O := [(1, 0, 0, 1, []), (80, 0, 0, 0, [])]
theorem h_X0_mayPress_52 : mj_ch 0 cX0_mayPress 52 k_X0_mayPress_52 54 = true := by decide +kernel
def k_X0_gap_0 : List mj_O := [(4, 0, 0, 0, []), (50, 0, 0, 0, []), (43, 45, 0, 0, [(3, 32), (4, 34)])]
theorem h_X0_gap_0 : mj_ch 0 cX0_gap 0 k_X0_gap_0 32 = true := by decide +kernel
def k_X0_gap_32 : List mj_O := [(1, 0, 0, 1, []), (80, 0, 0, 0, [])]
theorem h_X0_gap_32 : mj_ch 0 cX0_gap 32 k_X0_gap_32 34 = true := by decide +kernel
def k_X0_gap_34 : List mj_O := [(1, 0, 0, 1, []), (4, 0, 0, 0, []), (50, 0, 3, 0, []), (3, 1, 0, 0, []), (11, 0, 0, 0, []), (70, 128, 0, 0, []), (80, 0, 0, 0, [])]
theorem h_X0_gap_34 : mj_ch 0 cX0_gap 34 k_X0_gap_34 45 = true := by decide +kernel
def k_X0_gap_45 : List mj_O := [(4, 0, 0, 0, []), (50, 0, 3, 0, []), (80, 0, 0, 0, [])]
theorem h_X0_gap_45 : mj_ch 0 cX0_gap 45 k_X0_gap_45 50 = true := by decide +kernel
def k_X1_live_0 : List mj_O := [(3, 2, 0, 0, []), (32, 12, 0, 0, []), (3, 2, 0, 0, []), (4, 1, 0, 0, []), (50, 2, 3, 0, []), (38, 13, 0, 0, [])]
theorem h_X1_live_0 : mj_ch 1 cX1_live 0 k_X1_live_0 12 = true := by decide +kernel
def k_X1_live_12 : List mj_O := [(82, 0, 0, 0, [])]
theorem h_X1_live_12 : mj_ch 1 cX1_live 12 k_X1_live_12 13 = true := by decide +kernel
def k_X1_live_13 : List mj_O := [(4, 0, 0, 0, []), (4, 1, 0, 0, []), (3, 2, 0, 0, []), (70, 117, 0, 0, []), (1, 0, 0, 0, []), (5, 4, 0, 0, [])]
theorem h_X1_live_13 : mj_ch 1 cX1_live 13 k_X1_live_13 22 = true := by decide +kernel
def k_X1_live_22 : List mj_O := [(3, 4, 0, 0, []), (1, 0, 0, 1200, []), (39, 171, 0, 0, []), (4, 0, 0, 0, []), (50, 1, 3, 0, []), (1, 0, 0, 300, []), (37, 171, 0, 0, []), (4, 0, 0, 0, []), (70, 129, 0, 0, []), (5, 5, 0, 0, []), (3, 5, 0, 0, []), (32, 57, 0, 0, []), (3, 5, 0, 0, []), (1, 0, 0, 4, []), (38, 58, 0, 0, [])]
theorem h_X1_live_22 : mj_ch 1 cX1_live 22 k_X1_live_22 57 = true := by decide +kernel
def k_X1_live_57 : List mj_O := [(82, 0, 0, 0, [])]
theorem h_X1_live_57 : mj_ch 1 cX1_live 57 k_X1_live_57 58 = true := by decide +kernel
def k_X1_live_58 : List mj_O := [(4, 0, 0, 0, []), (51, 1, 0, 0, []), (3, 5, 0, 0, []), (60, 0, 0, 0, []), (5, 6, 0, 0, []), (4, 1, 0, 0, []), (51, 2, 1, 0, []), (3, 5, 0, 0, []), (64, 0, 0, 0, []), (6, 7, 0, 0, []), (3, 3, 0, 0, []), (1, 0, 0, (-1), []), (36, 108, 0, 0, []), (4, 7, 0, 0, []), (3, 6, 0, 0, []), (4, 1, 0, 0, []), (3, 3, 0, 0, []), (3, 6, 0, 0, []), (70, 153, 0, 0, []), (70, 165, 0, 0, []), (30, 108, 0, 0, []), (4, 0, 0, 0, []), (21, 0, 0, 0, []), (50, 1, 6, 0, []), (1, 0, 0, 1, []), (10, 0, 0, 0, []), (52, 1, 6, 0, [])]
theorem h_X1_live_58 : mj_ch 1 cX1_live 58 k_X1_live_58 108 = true := by decide +kernel
def k_X1_live_108 : List mj_O := [(4, 0, 0, 0, []), (51, 1, 1, 0, []), (3, 5, 0, 0, []), (60, 0, 0, 0, []), (5, 8, 0, 0, []), (4, 0, 0, 0, []), (4, 7, 0, 0, []), (3, 6, 0, 0, []), (4, 1, 0, 0, []), (3, 2, 0, 0, []), (3, 6, 0, 0, []), (70, 153, 0, 0, []), (3, 8, 0, 0, []), (70, 183, 0, 0, []), (30, 148, 0, 0, []), (4, 0, 0, 0, []), (51, 1, 1, 0, []), (3, 5, 0, 0, []), (22, 0, 0, 0, []), (60, 0, 0, 0, []), (1, 0, 0, 1, []), (10, 0, 0, 0, []), (61, 0, 0, 0, [])]
theorem h_X1_live_108 : mj_ch 1 cX1_live 108 k_X1_live_108 148 = true := by decide +kernel
def k_X1_live_148 : List mj_O := [(4, 0, 0, 0, []), (51, 1, 0, 0, []), (3, 5, 0, 0, []), (3, 6, 0, 0, []), (4, 7, 0, 0, []), (3, 8, 0, 0, []), (70, 195, 0, 0, []), (10, 0, 0, 0, []), (61, 0, 0, 0, []), (7, 4, 0, 1, []), (42, 22, 0, 0, [])]
theorem h_X1_live_148 : mj_ch 1 cX1_live 148 k_X1_live_148 171 = true := by decide +kernel
def k_X1_live_171 : List mj_O := [(82, 0, 0, 0, [])]
theorem h_X1_live_171 : mj_ch 1 cX1_live 171 k_X1_live_171 172 = true := by decide +kernel
def k_X1_fallAsleep_0 : List mj_O := [(1, 0, 0, 0, []), (5, 3, 0, 0, [])]
theorem h_X1_fallAsleep_0 : mj_ch 1 cX1_fallAsleep 0 k_X1_fallAsleep_0 2 = true := by decide +kernel
def k_X1_fallAsleep_2 : List mj_O := [(3, 3, 0, 0, []), (1, 0, 0, 4, []), (39, 74, 0, 0, []), (3, 3, 0, 0, []), (4, 1, 0, 0, []), (50, 2, 4, 0, []), (39, 32, 0, 0, []), (4, 1, 0, 0, []), (51, 2, 1, 0, []), (3, 3, 0, 0, []), (64, 0, 0, 0, []), (50, 0, 1, 0, []), (3, 2, 0, 0, []), (37, 32, 0, 0, []), (1, 0, 0, 1, []), (42, 33, 0, 0, [])]
theorem h_X1_fallAsleep_2 : mj_ch 1 cX1_fallAsleep 2 k_X1_fallAsleep_2 32 = true := by decide +kernel
def k_X1_fallAsleep_32 : List mj_O := [(1, 0, 0, 0, [])]
theorem h_X1_fallAsleep_32 : mj_ch 1 cX1_fallAsleep 32 k_X1_fallAsleep_32 33 = true := by decide +kernel
def k_X1_fallAsleep_33 : List mj_O := [(5, 4, 0, 0, []), (4, 0, 0, 0, []), (51, 1, 0, 0, []), (3, 3, 0, 0, []), (3, 4, 0, 0, []), (30, 57, 0, 0, []), (4, 1, 0, 0, []), (51, 2, 1, 0, []), (3, 3, 0, 0, []), (64, 0, 0, 0, []), (50, 0, 2, 0, []), (42, 60, 0, 0, [])]
theorem h_X1_fallAsleep_33 : mj_ch 1 cX1_fallAsleep 33 k_X1_fallAsleep_33 57 = true := by decide +kernel
def k_X1_fallAsleep_57 : List mj_O := [(1, 0, 0, 300, [])]
theorem h_X1_fallAsleep_57 : mj_ch 1 cX1_fallAsleep 57 k_X1_fallAsleep_57 60 = true := by decide +kernel
def k_X1_fallAsleep_60 : List mj_O := [(61, 0, 0, 0, []), (4, 0, 0, 0, []), (51, 1, 1, 0, []), (3, 3, 0, 0, []), (1, 0, 0, 0, []), (61, 0, 0, 0, []), (7, 3, 0, 1, []), (42, 2, 0, 0, [])]
theorem h_X1_fallAsleep_60 : mj_ch 1 cX1_fallAsleep 60 k_X1_fallAsleep_60 74 = true := by decide +kernel
def k_X1_fallAsleep_74 : List mj_O := [(4, 0, 0, 0, []), (4, 1, 0, 0, []), (50, 2, 6, 0, []), (4, 1, 0, 0, []), (1, 0, 0, 63, []), (1, 0, 0, 0, []), (70, 243, 0, 0, []), (11, 0, 0, 0, []), (4, 1, 0, 0, []), (51, 2, 0, 0, []), (3, 2, 0, 0, []), (64, 0, 0, 0, []), (50, 3, 3, 0, []), (10, 0, 0, 0, []), (4, 1, 0, 0, []), (50, 2, 7, 0, []), (11, 0, 0, 0, []), (52, 1, 2, 0, []), (4, 0, 0, 0, []), (1, 0, 0, 300, []), (52, 1, 3, 0, []), (4, 0, 0, 0, []), (1, 0, 0, 0, []), (52, 1, 4, 0, []), (4, 0, 0, 0, []), (1, 0, 0, 0, []), (52, 1, 5, 0, []), (4, 0, 0, 0, []), (1, 0, 0, 0, []), (52, 1, 6, 0, []), (82, 0, 0, 0, [])]
theorem h_X1_fallAsleep_74 : mj_ch 1 cX1_fallAsleep 74 k_X1_fallAsleep_74 128 = true := by decide +kernel
def k_X1_firstToRing_0 : List mj_O := [(1, 0, 0, (-1), []), (5, 1, 0, 0, []), (1, 0, 0, 300, []), (5, 2, 0, 0, []), (1, 0, 0, 0, []), (5, 3, 0, 0, [])]
theorem h_X1_firstToRing_0 : mj_ch 1 cX1_firstToRing 0 k_X1_firstToRing_0 8 = true := by decide +kernel
def k_X1_firstToRing_8 : List mj_O := [(3, 3, 0, 0, []), (1, 0, 0, 4, []), (39, 38, 0, 0, []), (4, 0, 0, 0, []), (51, 1, 0, 0, []), (3, 3, 0, 0, []), (60, 0, 0, 0, []), (3, 2, 0, 0, []), (39, 32, 0, 0, []), (4, 0, 0, 0, []), (51, 1, 0, 0, []), (3, 3, 0, 0, []), (60, 0, 0, 0, []), (5, 2, 0, 0, []), (3, 3, 0, 0, []), (5, 1, 0, 0, [])]
theorem h_X1_firstToRing_8 : mj_ch 1 cX1_firstToRing 8 k_X1_firstToRing_8 32 = true := by decide +kernel
def k_X1_firstToRing_32 : List mj_O := [(7, 3, 0, 1, []), (42, 8, 0, 0, [])]
theorem h_X1_firstToRing_32 : mj_ch 1 cX1_firstToRing 32 k_X1_firstToRing_32 38 = true := by decide +kernel
def k_X1_firstToRing_38 : List mj_O := [(3, 1, 0, 0, []), (80, 0, 0, 0, [])]
theorem h_X1_firstToRing_38 : mj_ch 1 cX1_firstToRing 38 k_X1_firstToRing_38 40 = true := by decide +kernel
def k_X1_ring_0 : List mj_O := [(4, 1, 0, 0, []), (3, 2, 0, 0, []), (3, 3, 0, 0, []), (70, 165, 0, 0, []), (31, 21, 0, 0, []), (4, 0, 0, 0, []), (21, 0, 0, 0, []), (50, 1, 5, 0, []), (1, 0, 0, 1, []), (10, 0, 0, 0, []), (52, 1, 5, 0, []), (1, 0, 0, 0, []), (80, 0, 0, 0, [])]
theorem h_X1_ring_0 : mj_ch 1 cX1_ring 0 k_X1_ring_0 21 = true := by decide +kernel
def k_X1_ring_21 : List mj_O := [(4, 1, 0, 0, []), (3, 4, 0, 0, []), (70, 288, 0, 0, []), (30, 53, 0, 0, []), (4, 0, 0, 0, []), (50, 1, 2, 0, []), (3, 2, 0, 0, []), (11, 0, 0, 0, []), (3, 3, 0, 0, []), (10, 0, 0, 0, []), (35, 53, 0, 0, []), (4, 0, 0, 0, []), (21, 0, 0, 0, []), (50, 1, 4, 0, []), (1, 0, 0, 1, []), (10, 0, 0, 0, []), (52, 1, 4, 0, []), (1, 0, 0, 1, []), (80, 0, 0, 0, [])]
theorem h_X1_ring_21 : mj_ch 1 cX1_ring 21 k_X1_ring_21 53 = true := by decide +kernel
def k_X1_ring_53 : List mj_O := [(4, 0, 0, 0, []), (3, 2, 0, 0, []), (52, 1, 3, 0, []), (1, 0, 0, 0, []), (80, 0, 0, 0, [])]
theorem h_X1_ring_53 : mj_ch 1 cX1_ring 53 k_X1_ring_53 60 = true := by decide +kernel
def k_X2_copyFrom_0 : List mj_O := [(1, 0, 0, 0, []), (5, 2, 0, 0, [])]
theorem h_X2_copyFrom_0 : mj_ch 2 cX2_copyFrom 0 k_X2_copyFrom_0 2 = true := by decide +kernel
def k_X2_copyFrom_2 : List mj_O := [(3, 2, 0, 0, []), (1, 0, 0, 4, []), (39, 28, 0, 0, []), (4, 0, 0, 0, []), (51, 2, 0, 0, []), (3, 2, 0, 0, []), (64, 0, 0, 0, []), (4, 1, 0, 0, []), (51, 2, 0, 0, []), (3, 2, 0, 0, []), (64, 0, 0, 0, []), (70, 162, 0, 0, []), (7, 2, 0, 1, []), (42, 2, 0, 0, [])]
theorem h_X2_copyFrom_2 : mj_ch 2 cX2_copyFrom 2 k_X2_copyFrom_2 28 = true := by decide +kernel
def k_X2_copyFrom_28 : List mj_O := [(1, 0, 0, 0, []), (5, 2, 0, 0, [])]
theorem h_X2_copyFrom_28 : mj_ch 2 cX2_copyFrom 28 k_X2_copyFrom_28 30 = true := by decide +kernel
def k_X2_copyFrom_30 : List mj_O := [(3, 2, 0, 0, []), (1, 0, 0, 4, []), (39, 56, 0, 0, []), (4, 0, 0, 0, []), (51, 2, 1, 0, []), (3, 2, 0, 0, []), (64, 0, 0, 0, []), (4, 1, 0, 0, []), (51, 2, 1, 0, []), (3, 2, 0, 0, []), (64, 0, 0, 0, []), (70, 174, 0, 0, []), (7, 2, 0, 1, []), (42, 30, 0, 0, [])]
theorem h_X2_copyFrom_30 : mj_ch 2 cX2_copyFrom 30 k_X2_copyFrom_30 56 = true := by decide +kernel
def k_X2_copyFrom_56 : List mj_O := [(1, 0, 0, 0, []), (5, 2, 0, 0, [])]
theorem h_X2_copyFrom_56 : mj_ch 2 cX2_copyFrom 56 k_X2_copyFrom_56 58 = true := by decide +kernel
def k_X2_copyFrom_58 : List mj_O := [(3, 2, 0, 0, []), (1, 0, 0, 6, []), (39, 85, 0, 0, []), (4, 0, 0, 0, []), (51, 2, 2, 0, []), (3, 2, 0, 0, []), (64, 0, 0, 0, []), (4, 1, 0, 0, []), (51, 2, 2, 0, []), (3, 2, 0, 0, []), (64, 0, 0, 0, []), (70, 183, 0, 0, []), (7, 2, 0, 1, []), (42, 58, 0, 0, [])]
theorem h_X2_copyFrom_58 : mj_ch 2 cX2_copyFrom 58 k_X2_copyFrom_58 85 = true := by decide +kernel
def k_X2_copyFrom_85 : List mj_O := [(4, 0, 0, 0, []), (4, 1, 0, 0, []), (50, 2, 3, 0, []), (52, 2, 3, 0, []), (4, 0, 0, 0, []), (4, 1, 0, 0, []), (50, 2, 4, 0, []), (52, 2, 4, 0, []), (4, 0, 0, 0, []), (4, 1, 0, 0, []), (50, 2, 5, 0, []), (52, 2, 5, 0, []), (4, 0, 0, 0, []), (4, 1, 0, 0, []), (50, 2, 6, 0, []), (52, 2, 6, 0, []), (4, 0, 0, 0, []), (4, 1, 0, 0, []), (50, 2, 7, 0, []), (52, 2, 7, 0, []), (4, 0, 0, 0, []), (4, 1, 0, 0, []), (50, 2, 8, 0, []), (52, 2, 8, 0, []), (4, 0, 0, 0, []), (4, 1, 0, 0, []), (50, 2, 9, 0, []), (52, 2, 9, 0, []), (82, 0, 0, 0, [])]
theorem h_X2_copyFrom_85 : mj_ch 2 cX2_copyFrom 85 k_X2_copyFrom_85 142 = true := by decide +kernel
def k_X2_take_0 : List mj_O := [(3, 1, 0, 0, []), (43, 82, 0, 0, [(98, 70), (99, 58), (102, 76), (115, 52), (116, 64)])]
theorem h_X2_take_0 : mj_ch 2 cX2_take 0 k_X2_take_0 52 = true := by decide +kernel
def k_X2_take_52 : List mj_O := [(4, 0, 0, 0, []), (4, 2, 0, 0, []), (70, 192, 0, 0, []), (80, 0, 0, 0, [])]
theorem h_X2_take_52 : mj_ch 2 cX2_take 52 k_X2_take_52 58 = true := by decide +kernel
def k_X2_take_58 : List mj_O := [(4, 0, 0, 0, []), (4, 2, 0, 0, []), (70, 204, 0, 0, []), (80, 0, 0, 0, [])]
theorem h_X2_take_58 : mj_ch 2 cX2_take 58 k_X2_take_58 64 = true := by decide +kernel
def k_X2_take_64 : List mj_O := [(4, 0, 0, 0, []), (4, 2, 0, 0, []), (70, 213, 0, 0, []), (80, 0, 0, 0, [])]
theorem h_X2_take_64 : mj_ch 2 cX2_take 64 k_X2_take_64 70 = true := by decide +kernel
def k_X2_take_70 : List mj_O := [(4, 0, 0, 0, []), (4, 2, 0, 0, []), (70, 222, 0, 0, []), (80, 0, 0, 0, [])]
theorem h_X2_take_70 : mj_ch 2 cX2_take 70 k_X2_take_70 76 = true := by decide +kernel
def k_X2_take_76 : List mj_O := [(4, 0, 0, 0, []), (4, 2, 0, 0, []), (70, 231, 0, 0, []), (80, 0, 0, 0, [])]
theorem h_X2_take_76 : mj_ch 2 cX2_take 76 k_X2_take_76 82 = true := by decide +kernel
def k_X2_take_82 : List mj_O := [(1, 0, 0, 0, []), (80, 0, 0, 0, [])]
theorem h_X2_take_82 : mj_ch 2 cX2_take 82 k_X2_take_82 84 = true := by decide +kernel
def k_X2_takeSleeper_0 : List mj_O := [(4, 0, 0, 0, []), (50, 2, 3, 0, []), (1, 0, 0, 4, []), (39, 24, 0, 0, []), (4, 0, 0, 0, []), (51, 2, 0, 0, []), (4, 0, 0, 0, []), (50, 2, 3, 0, []), (64, 0, 0, 0, []), (4, 1, 0, 0, []), (70, 240, 0, 0, []), (31, 26, 0, 0, [])]
theorem h_X2_takeSleeper_0 : mj_ch 2 cX2_takeSleeper 0 k_X2_takeSleeper_0 24 = true := by decide +kernel
def k_X2_takeSleeper_24 : List mj_O := [(1, 0, 0, 0, []), (80, 0, 0, 0, [])]
theorem h_X2_takeSleeper_24 : mj_ch 2 cX2_takeSleeper 24 k_X2_takeSleeper_24 26 = true := by decide +kernel
def k_X2_takeSleeper_26 : List mj_O := [(4, 0, 0, 0, []), (21, 0, 0, 0, []), (50, 2, 3, 0, []), (1, 0, 0, 1, []), (10, 0, 0, 0, []), (52, 2, 3, 0, []), (1, 0, 0, 1, []), (80, 0, 0, 0, [])]
theorem h_X2_takeSleeper_26 : mj_ch 2 cX2_takeSleeper 26 k_X2_takeSleeper_26 38 = true := by decide +kernel
def k_X2_takeClock_0 : List mj_O := [(4, 0, 0, 0, []), (50, 2, 4, 0, []), (1, 0, 0, 4, []), (39, 24, 0, 0, []), (4, 0, 0, 0, []), (51, 2, 1, 0, []), (4, 0, 0, 0, []), (50, 2, 4, 0, []), (64, 0, 0, 0, []), (4, 1, 0, 0, []), (70, 249, 0, 0, []), (31, 26, 0, 0, [])]
theorem h_X2_takeClock_0 : mj_ch 2 cX2_takeClock 0 k_X2_takeClock_0 24 = true := by decide +kernel
def k_X2_takeClock_24 : List mj_O := [(1, 0, 0, 0, []), (80, 0, 0, 0, [])]
theorem h_X2_takeClock_24 : mj_ch 2 cX2_takeClock 24 k_X2_takeClock_24 26 = true := by decide +kernel
def k_X2_takeClock_26 : List mj_O := [(4, 0, 0, 0, []), (51, 2, 1, 0, []), (4, 0, 0, 0, []), (50, 2, 4, 0, []), (64, 0, 0, 0, []), (50, 0, 1, 0, []), (4, 0, 0, 0, []), (50, 2, 3, 0, []), (38, 47, 0, 0, []), (1, 0, 0, 0, []), (80, 0, 0, 0, [])]
theorem h_X2_takeClock_26 : mj_ch 2 cX2_takeClock 26 k_X2_takeClock_26 47 = true := by decide +kernel
def k_X2_takeClock_47 : List mj_O := [(4, 0, 0, 0, []), (21, 0, 0, 0, []), (50, 2, 4, 0, []), (1, 0, 0, 1, []), (10, 0, 0, 0, []), (52, 2, 4, 0, []), (1, 0, 0, 1, []), (80, 0, 0, 0, [])]
theorem h_X2_takeClock_47 : mj_ch 2 cX2_takeClock 47 k_X2_takeClock_47 59 = true := by decide +kernel
def k_X2_takeTask_0 : List mj_O := [(4, 0, 0, 0, []), (50, 2, 5, 0, []), (1, 0, 0, 6, []), (39, 25, 0, 0, []), (4, 0, 0, 0, []), (51, 2, 2, 0, []), (4, 0, 0, 0, []), (50, 2, 5, 0, []), (64, 0, 0, 0, []), (4, 1, 0, 0, []), (70, 261, 0, 0, []), (31, 27, 0, 0, [])]
theorem h_X2_takeTask_0 : mj_ch 2 cX2_takeTask 0 k_X2_takeTask_0 25 = true := by decide +kernel
def k_X2_takeTask_25 : List mj_O := [(1, 0, 0, 0, []), (80, 0, 0, 0, [])]
theorem h_X2_takeTask_25 : mj_ch 2 cX2_takeTask 25 k_X2_takeTask_25 27 = true := by decide +kernel
def k_X2_takeTask_27 : List mj_O := [(4, 0, 0, 0, []), (21, 0, 0, 0, []), (50, 2, 5, 0, []), (1, 0, 0, 1, []), (10, 0, 0, 0, []), (52, 2, 5, 0, []), (1, 0, 0, 1, []), (80, 0, 0, 0, [])]
theorem h_X2_takeTask_27 : mj_ch 2 cX2_takeTask 27 k_X2_takeTask_27 39 = true := by decide +kernel
def k_X2_takeBus_0 : List mj_O := [(4, 1, 0, 0, []), (2, 106, 0, 0, []), (2, 107, 0, 0, []), (70, 287, 0, 0, []), (31, 15, 0, 0, []), (1, 0, 0, 0, []), (80, 0, 0, 0, [])]
theorem h_X2_takeBus_0 : mj_ch 2 cX2_takeBus 0 k_X2_takeBus_0 15 = true := by decide +kernel
def k_X2_takeBus_15 : List mj_O := [(4, 0, 0, 0, []), (4, 1, 0, 0, []), (1, 0, 0, 0, []), (60, 0, 0, 0, []), (52, 2, 6, 0, []), (1, 0, 0, 1, []), (80, 0, 0, 0, [])]
theorem h_X2_takeBus_15 : mj_ch 2 cX2_takeBus 15 k_X2_takeBus_15 24 = true := by decide +kernel
def k_X2_takeFirm_0 : List mj_O := [(4, 1, 0, 0, []), (2, 108, 0, 0, []), (2, 109, 0, 0, []), (70, 287, 0, 0, []), (31, 15, 0, 0, []), (1, 0, 0, 0, []), (80, 0, 0, 0, [])]
theorem h_X2_takeFirm_0 : mj_ch 2 cX2_takeFirm 0 k_X2_takeFirm_0 15 = true := by decide +kernel
def k_X2_takeFirm_15 : List mj_O := [(4, 0, 0, 0, []), (4, 1, 0, 0, []), (1, 0, 0, 0, []), (60, 0, 0, 0, []), (52, 2, 7, 0, []), (1, 0, 0, 1, []), (80, 0, 0, 0, [])]
theorem h_X2_takeFirm_15 : mj_ch 2 cX2_takeFirm 15 k_X2_takeFirm_15 24 = true := by decide +kernel
def k_X2_depthOf_0 : List mj_O := [(3, 1, 0, 0, []), (32, 9, 0, 0, []), (3, 1, 0, 0, []), (1, 0, 0, 4, []), (38, 11, 0, 0, [])]
theorem h_X2_depthOf_0 : mj_ch 2 cX2_depthOf 0 k_X2_depthOf_0 9 = true := by decide +kernel
def k_X2_depthOf_9 : List mj_O := [(1, 0, 0, 0, []), (80, 0, 0, 0, [])]
theorem h_X2_depthOf_9 : mj_ch 2 cX2_depthOf 9 k_X2_depthOf_9 11 = true := by decide +kernel
def k_X2_depthOf_11 : List mj_O := [(4, 0, 0, 0, []), (51, 2, 0, 0, []), (3, 1, 0, 0, []), (64, 0, 0, 0, []), (3, 2, 0, 0, []), (4, 0, 0, 0, []), (50, 2, 8, 0, []), (4, 0, 0, 0, []), (50, 2, 9, 0, []), (70, 315, 0, 0, []), (80, 0, 0, 0, [])]
theorem h_X2_depthOf_11 : mj_ch 2 cX2_depthOf 11 k_X2_depthOf_11 30 = true := by decide +kernel
def k_X2_sumOf_0 : List mj_O := [(1, 0, 0, 0, []), (5, 3, 0, 0, []), (1, 0, 0, 0, []), (5, 4, 0, 0, [])]
theorem h_X2_sumOf_0 : mj_ch 2 cX2_sumOf 0 k_X2_sumOf_0 5 = true := by decide +kernel
def k_X2_sumOf_5 : List mj_O := [(3, 4, 0, 0, []), (4, 0, 0, 0, []), (50, 2, 5, 0, []), (39, 51, 0, 0, []), (3, 4, 0, 0, []), (1, 0, 0, 6, []), (39, 51, 0, 0, []), (3, 1, 0, 0, []), (3, 4, 0, 0, []), (17, 0, 0, 0, []), (1, 0, 0, 1, []), (18, 0, 0, 0, []), (1, 0, 0, 1, []), (37, 45, 0, 0, []), (3, 3, 0, 0, []), (4, 0, 0, 0, []), (51, 2, 2, 0, []), (3, 4, 0, 0, []), (64, 0, 0, 0, []), (3, 2, 0, 0, []), (70, 327, 0, 0, []), (10, 0, 0, 0, []), (5, 3, 0, 0, [])]
theorem h_X2_sumOf_5 : mj_ch 2 cX2_sumOf 5 k_X2_sumOf_5 45 = true := by decide +kernel
def k_X2_sumOf_45 : List mj_O := [(7, 4, 0, 1, []), (42, 5, 0, 0, [])]
theorem h_X2_sumOf_45 : mj_ch 2 cX2_sumOf 45 k_X2_sumOf_45 51 = true := by decide +kernel
def k_X2_sumOf_51 : List mj_O := [(3, 3, 0, 0, []), (80, 0, 0, 0, [])]
theorem h_X2_sumOf_51 : mj_ch 2 cX2_sumOf 51 k_X2_sumOf_51 53 = true := by decide +kernel
def k_X2_doneBits_0 : List mj_O := [(4, 0, 0, 0, []), (50, 2, 6, 0, []), (3, 1, 0, 0, []), (11, 0, 0, 0, []), (5, 2, 0, 0, []), (1, 0, 0, 0, []), (5, 3, 0, 0, []), (1, 0, 0, 0, []), (5, 4, 0, 0, []), (1, 0, 0, 1, []), (5, 5, 0, 0, [])]
theorem h_X2_doneBits_0 : mj_ch 2 cX2_doneBits 0 k_X2_doneBits_0 15 = true := by decide +kernel
def k_X2_doneBits_15 : List mj_O := [(3, 5, 0, 0, []), (1, 0, 0, 1, []), (4, 0, 0, 0, []), (50, 2, 5, 0, []), (16, 0, 0, 0, []), (39, 66, 0, 0, []), (4, 0, 0, 0, []), (3, 5, 0, 0, []), (1, 0, 0, 0, []), (70, 339, 0, 0, []), (3, 2, 0, 0, []), (40, 60, 0, 0, []), (4, 0, 0, 0, []), (3, 5, 0, 0, []), (1, 0, 0, 1, []), (70, 339, 0, 0, []), (5, 6, 0, 0, []), (3, 6, 0, 0, []), (3, 4, 0, 0, []), (41, 60, 0, 0, []), (3, 5, 0, 0, []), (5, 3, 0, 0, []), (3, 6, 0, 0, []), (5, 4, 0, 0, [])]
theorem h_X2_doneBits_15 : mj_ch 2 cX2_doneBits 15 k_X2_doneBits_15 60 = true := by decide +kernel
def k_X2_doneBits_60 : List mj_O := [(7, 5, 0, 1, []), (42, 15, 0, 0, [])]
theorem h_X2_doneBits_60 : mj_ch 2 cX2_doneBits 60 k_X2_doneBits_60 66 = true := by decide +kernel
def k_X2_doneBits_66 : List mj_O := [(3, 3, 0, 0, []), (80, 0, 0, 0, [])]
theorem h_X2_doneBits_66 : mj_ch 2 cX2_doneBits 66 k_X2_doneBits_66 68 = true := by decide +kernel
def k_X2_worthDone_0 : List mj_O := [(4, 0, 0, 0, []), (4, 0, 0, 0, []), (3, 1, 0, 0, []), (70, 351, 0, 0, []), (1, 0, 0, 1, []), (70, 339, 0, 0, []), (80, 0, 0, 0, [])]
theorem h_X2_worthDone_0 : mj_ch 2 cX2_worthDone 0 k_X2_worthDone_0 11 = true := by decide +kernel
def k_X2_passDay_0 : List mj_O := [(3, 1, 0, 0, []), (1, 0, 0, 2, []), (38, 23, 0, 0, []), (4, 0, 0, 0, []), (4, 0, 0, 0, []), (50, 2, 8, 0, []), (1, 0, 0, 1, []), (10, 0, 0, 0, []), (1, 0, 0, 9, []), (70, 362, 0, 0, []), (52, 2, 8, 0, []), (42, 41, 0, 0, [])]
theorem h_X2_passDay_0 : mj_ch 2 cX2_passDay 0 k_X2_passDay_0 23 = true := by decide +kernel
def k_X2_passDay_23 : List mj_O := [(3, 1, 0, 0, []), (31, 41, 0, 0, []), (4, 0, 0, 0, []), (4, 0, 0, 0, []), (50, 2, 8, 0, []), (1, 0, 0, 1, []), (11, 0, 0, 0, []), (1, 0, 0, 0, []), (70, 377, 0, 0, []), (52, 2, 8, 0, [])]
theorem h_X2_passDay_23 : mj_ch 2 cX2_passDay 23 k_X2_passDay_23 41 = true := by decide +kernel
def k_X2_passDay_41 : List mj_O := [(4, 0, 0, 0, []), (4, 0, 0, 0, []), (50, 2, 9, 0, []), (1, 0, 0, 6, []), (38, 55, 0, 0, []), (1, 0, 0, 0, []), (42, 61, 0, 0, [])]
theorem h_X2_passDay_41 : mj_ch 2 cX2_passDay 41 k_X2_passDay_41 55 = true := by decide +kernel
def k_X2_passDay_55 : List mj_O := [(4, 0, 0, 0, []), (50, 2, 9, 0, []), (1, 0, 0, 1, []), (10, 0, 0, 0, [])]
theorem h_X2_passDay_55 : mj_ch 2 cX2_passDay 55 k_X2_passDay_55 61 = true := by decide +kernel
def k_X2_passDay_61 : List mj_O := [(52, 2, 9, 0, []), (82, 0, 0, 0, [])]
theorem h_X2_passDay_61 : mj_ch 2 cX2_passDay 61 k_X2_passDay_61 65 = true := by decide +kernel
def k_X3_init_0 : List mj_O := [(4, 0, 0, 0, []), (70, 10, 0, 0, []), (4, 0, 0, 0, []), (1, 0, 0, 0, []), (52, 3, 0, 0, []), (4, 0, 0, 0, []), (1, 0, 0, 0, []), (52, 3, 1, 0, []), (4, 0, 0, 0, []), (1, 0, 0, 0, []), (52, 3, 2, 0, []), (4, 0, 0, 0, []), (1, 0, 0, 0, []), (52, 3, 3, 0, []), (82, 0, 0, 0, [])]
theorem h_X3_init_0 : mj_ch 3 cX3_init 0 k_X3_init_0 25 = true := by decide +kernel
def k_X3_copyFrom_0 : List mj_O := [(4, 0, 0, 0, []), (4, 1, 0, 0, []), (50, 3, 0, 0, []), (52, 3, 0, 0, []), (4, 0, 0, 0, []), (4, 1, 0, 0, []), (50, 3, 1, 0, []), (52, 3, 1, 0, []), (4, 0, 0, 0, []), (4, 1, 0, 0, []), (50, 3, 2, 0, []), (52, 3, 2, 0, []), (4, 0, 0, 0, []), (4, 1, 0, 0, []), (50, 3, 3, 0, []), (52, 3, 3, 0, []), (82, 0, 0, 0, [])]
theorem h_X3_copyFrom_0 : mj_ch 3 cX3_copyFrom 0 k_X3_copyFrom_0 33 = true := by decide +kernel
def k_X3_beAs_0 : List mj_O := [(4, 1, 0, 0, []), (2, 100, 0, 0, []), (2, 101, 0, 0, []), (70, 95, 0, 0, []), (30, 19, 0, 0, []), (4, 1, 0, 0, []), (65, 0, 0, 0, []), (1, 0, 0, 4, []), (39, 21, 0, 0, [])]
theorem h_X3_beAs_0 : mj_ch 3 cX3_beAs 0 k_X3_beAs_0 19 = true := by decide +kernel
def k_X3_beAs_19 : List mj_O := [(1, 0, 0, 0, []), (80, 0, 0, 0, [])]
theorem h_X3_beAs_19 : mj_ch 3 cX3_beAs 19 k_X3_beAs_19 21 = true := by decide +kernel
def k_X3_beAs_21 : List mj_O := [(4, 0, 0, 0, []), (4, 1, 0, 0, []), (1, 0, 0, 0, []), (60, 0, 0, 0, []), (52, 3, 0, 0, []), (4, 0, 0, 0, []), (4, 1, 0, 0, []), (1, 0, 0, 1, []), (60, 0, 0, 0, []), (52, 3, 1, 0, []), (4, 0, 0, 0, []), (4, 1, 0, 0, []), (1, 0, 0, 2, []), (60, 0, 0, 0, []), (52, 3, 2, 0, []), (4, 0, 0, 0, []), (4, 1, 0, 0, []), (1, 0, 0, 3, []), (60, 0, 0, 0, []), (52, 3, 3, 0, []), (1, 0, 0, 1, []), (80, 0, 0, 0, [])]
theorem h_X3_beAs_21 : mj_ch 3 cX3_beAs 21 k_X3_beAs_21 51 = true := by decide +kernel
def k_X3_partOf_0 : List mj_O := [(3, 1, 0, 0, []), (43, 43, 0, 0, [(0, 28), (1, 33), (2, 38)])]
theorem h_X3_partOf_0 : mj_ch 3 cX3_partOf 0 k_X3_partOf_0 28 = true := by decide +kernel
def k_X3_partOf_28 : List mj_O := [(4, 0, 0, 0, []), (50, 3, 0, 0, []), (80, 0, 0, 0, [])]
theorem h_X3_partOf_28 : mj_ch 3 cX3_partOf 28 k_X3_partOf_28 33 = true := by decide +kernel
def k_X3_partOf_33 : List mj_O := [(4, 0, 0, 0, []), (50, 3, 1, 0, []), (80, 0, 0, 0, [])]
theorem h_X3_partOf_33 : mj_ch 3 cX3_partOf 33 k_X3_partOf_33 38 = true := by decide +kernel
def k_X3_partOf_38 : List mj_O := [(4, 0, 0, 0, []), (50, 3, 2, 0, []), (80, 0, 0, 0, [])]
theorem h_X3_partOf_38 : mj_ch 3 cX3_partOf 38 k_X3_partOf_38 43 = true := by decide +kernel
def k_X3_partOf_43 : List mj_O := [(4, 0, 0, 0, []), (50, 3, 3, 0, []), (80, 0, 0, 0, [])]
theorem h_X3_partOf_43 : mj_ch 3 cX3_partOf 43 k_X3_partOf_43 48 = true := by decide +kernel
def k_X3_depthAt_0 : List mj_O := [(3, 2, 0, 0, []), (5, 4, 0, 0, []), (4, 0, 0, 0, []), (50, 3, 1, 0, []), (35, 47, 0, 0, []), (3, 1, 0, 0, []), (4, 0, 0, 0, []), (50, 3, 1, 0, []), (14, 0, 0, 0, []), (5, 5, 0, 0, []), (3, 4, 0, 0, []), (3, 5, 0, 0, []), (4, 0, 0, 0, []), (50, 3, 1, 0, []), (3, 5, 0, 0, []), (11, 0, 0, 0, []), (70, 107, 0, 0, []), (4, 0, 0, 0, []), (50, 3, 2, 0, []), (12, 0, 0, 0, []), (1, 0, 0, 2, []), (12, 0, 0, 0, []), (4, 0, 0, 0, []), (50, 3, 1, 0, []), (13, 0, 0, 0, []), (10, 0, 0, 0, []), (5, 4, 0, 0, [])]
theorem h_X3_depthAt_0 : mj_ch 3 cX3_depthAt 0 k_X3_depthAt_0 47 = true := by decide +kernel
def k_X3_depthAt_47 : List mj_O := [(4, 0, 0, 0, []), (50, 3, 0, 0, []), (43, 139, 0, 0, [(1, 84), (2, 89), (3, 94), (4, 108), (5, 124)])]
theorem h_X3_depthAt_47 : mj_ch 3 cX3_depthAt 47 k_X3_depthAt_47 84 = true := by decide +kernel
def k_X3_depthAt_84 : List mj_O := [(3, 4, 0, 0, []), (1, 0, 0, 2, []), (13, 0, 0, 0, []), (80, 0, 0, 0, [])]
theorem h_X3_depthAt_84 : mj_ch 3 cX3_depthAt 84 k_X3_depthAt_84 89 = true := by decide +kernel
def k_X3_depthAt_89 : List mj_O := [(3, 4, 0, 0, []), (1, 0, 0, 4, []), (10, 0, 0, 0, []), (80, 0, 0, 0, [])]
theorem h_X3_depthAt_89 : mj_ch 3 cX3_depthAt 89 k_X3_depthAt_89 94 = true := by decide +kernel
def k_X3_depthAt_94 : List mj_O := [(3, 4, 0, 0, []), (1, 0, 0, 4, []), (10, 0, 0, 0, []), (1, 0, 0, 300, []), (3, 1, 0, 0, []), (11, 0, 0, 0, []), (1, 0, 0, 30, []), (13, 0, 0, 0, []), (10, 0, 0, 0, []), (80, 0, 0, 0, [])]
theorem h_X3_depthAt_94 : mj_ch 3 cX3_depthAt 94 k_X3_depthAt_94 108 = true := by decide +kernel
def k_X3_depthAt_108 : List mj_O := [(3, 1, 0, 0, []), (1, 0, 0, 10, []), (14, 0, 0, 0, []), (31, 119, 0, 0, []), (1, 0, 0, 0, []), (42, 123, 0, 0, [])]
theorem h_X3_depthAt_108 : mj_ch 3 cX3_depthAt 108 k_X3_depthAt_108 119 = true := by decide +kernel
def k_X3_depthAt_119 : List mj_O := [(3, 4, 0, 0, []), (1, 0, 0, 2, []), (13, 0, 0, 0, [])]
theorem h_X3_depthAt_119 : mj_ch 3 cX3_depthAt 119 k_X3_depthAt_119 123 = true := by decide +kernel
def k_X3_depthAt_123 : List mj_O := [(80, 0, 0, 0, [])]
theorem h_X3_depthAt_123 : mj_ch 3 cX3_depthAt 123 k_X3_depthAt_123 124 = true := by decide +kernel
def k_X3_depthAt_124 : List mj_O := [(3, 3, 0, 0, []), (1, 0, 0, 5, []), (38, 134, 0, 0, []), (3, 4, 0, 0, []), (42, 138, 0, 0, [])]
theorem h_X3_depthAt_124 : mj_ch 3 cX3_depthAt 124 k_X3_depthAt_124 134 = true := by decide +kernel
def k_X3_depthAt_134 : List mj_O := [(3, 4, 0, 0, []), (1, 0, 0, 2, []), (13, 0, 0, 0, [])]
theorem h_X3_depthAt_134 : mj_ch 3 cX3_depthAt 134 k_X3_depthAt_134 138 = true := by decide +kernel
def k_X3_depthAt_138 : List mj_O := [(80, 0, 0, 0, [])]
theorem h_X3_depthAt_138 : mj_ch 3 cX3_depthAt 138 k_X3_depthAt_138 139 = true := by decide +kernel
def k_X3_depthAt_139 : List mj_O := [(3, 4, 0, 0, []), (80, 0, 0, 0, [])]
theorem h_X3_depthAt_139 : mj_ch 3 cX3_depthAt 139 k_X3_depthAt_139 142 = true := by decide +kernel
def k_X4_init_0 : List mj_O := [(4, 0, 0, 0, []), (70, 10, 0, 0, []), (4, 0, 0, 0, []), (1, 0, 0, 0, []), (52, 4, 0, 0, []), (4, 0, 0, 0, []), (1, 0, 0, 0, []), (52, 4, 1, 0, []), (82, 0, 0, 0, [])]
theorem h_X4_init_0 : mj_ch 4 cX4_init 0 k_X4_init_0 15 = true := by decide +kernel
def k_X4_copyFrom_0 : List mj_O := [(4, 0, 0, 0, []), (4, 1, 0, 0, []), (50, 4, 0, 0, []), (52, 4, 0, 0, []), (4, 0, 0, 0, []), (4, 1, 0, 0, []), (50, 4, 1, 0, []), (52, 4, 1, 0, []), (82, 0, 0, 0, [])]
theorem h_X4_copyFrom_0 : mj_ch 4 cX4_copyFrom 0 k_X4_copyFrom_0 17 = true := by decide +kernel
def k_X4_beAs_0 : List mj_O := [(4, 1, 0, 0, []), (2, 104, 0, 0, []), (2, 105, 0, 0, []), (70, 77, 0, 0, []), (30, 19, 0, 0, []), (4, 1, 0, 0, []), (65, 0, 0, 0, []), (1, 0, 0, 2, []), (39, 21, 0, 0, [])]
theorem h_X4_beAs_0 : mj_ch 4 cX4_beAs 0 k_X4_beAs_0 19 = true := by decide +kernel
def k_X4_beAs_19 : List mj_O := [(1, 0, 0, 0, []), (80, 0, 0, 0, [])]
theorem h_X4_beAs_19 : mj_ch 4 cX4_beAs 19 k_X4_beAs_19 21 = true := by decide +kernel
def k_X4_beAs_21 : List mj_O := [(4, 0, 0, 0, []), (4, 1, 0, 0, []), (1, 0, 0, 0, []), (60, 0, 0, 0, []), (52, 4, 0, 0, []), (4, 0, 0, 0, []), (4, 1, 0, 0, []), (1, 0, 0, 1, []), (60, 0, 0, 0, []), (52, 4, 1, 0, []), (1, 0, 0, 1, []), (80, 0, 0, 0, [])]
theorem h_X4_beAs_21 : mj_ch 4 cX4_beAs 21 k_X4_beAs_21 37 = true := by decide +kernel
def k_X4_partOf_0 : List mj_O := [(3, 1, 0, 0, []), (31, 11, 0, 0, []), (4, 0, 0, 0, []), (50, 4, 0, 0, []), (42, 15, 0, 0, [])]
theorem h_X4_partOf_0 : mj_ch 4 cX4_partOf 0 k_X4_partOf_0 11 = true := by decide +kernel
def k_X4_partOf_11 : List mj_O := [(4, 0, 0, 0, []), (50, 4, 1, 0, [])]
theorem h_X4_partOf_11 : mj_ch 4 cX4_partOf 11 k_X4_partOf_11 15 = true := by decide +kernel
def k_X4_partOf_15 : List mj_O := [(80, 0, 0, 0, [])]
theorem h_X4_partOf_15 : mj_ch 4 cX4_partOf 15 k_X4_partOf_15 16 = true := by decide +kernel
def k_X5_isFull_0 : List mj_O := [(4, 0, 0, 0, []), (50, 5, 1, 0, []), (4, 0, 0, 0, []), (51, 5, 0, 0, []), (65, 0, 0, 0, []), (38, 16, 0, 0, []), (1, 0, 0, 1, []), (42, 17, 0, 0, [])]
theorem h_X5_isFull_0 : mj_ch 5 cX5_isFull 0 k_X5_isFull_0 16 = true := by decide +kernel
def k_X5_isFull_16 : List mj_O := [(1, 0, 0, 0, [])]
theorem h_X5_isFull_16 : mj_ch 5 cX5_isFull 16 k_X5_isFull_16 17 = true := by decide +kernel
def k_X5_isFull_17 : List mj_O := [(80, 0, 0, 0, [])]
theorem h_X5_isFull_17 : mj_ch 5 cX5_isFull 17 k_X5_isFull_17 18 = true := by decide +kernel
def k_X5_add_0 : List mj_O := [(4, 0, 0, 0, []), (70, 87, 0, 0, []), (31, 27, 0, 0, []), (4, 0, 0, 0, []), (51, 5, 0, 0, []), (4, 0, 0, 0, []), (50, 5, 1, 0, []), (3, 1, 0, 0, []), (63, 0, 0, 0, []), (4, 0, 0, 0, []), (21, 0, 0, 0, []), (50, 5, 1, 0, []), (1, 0, 0, 1, []), (10, 0, 0, 0, []), (52, 5, 1, 0, [])]
theorem h_X5_add_0 : mj_ch 5 cX5_add 0 k_X5_add_0 27 = true := by decide +kernel
def k_X5_add_27 : List mj_O := [(4, 0, 0, 0, []), (50, 5, 1, 0, []), (80, 0, 0, 0, [])]
theorem h_X5_add_27 : mj_ch 5 cX5_add 27 k_X5_add_27 32 = true := by decide +kernel
def k_X5_forget_0 : List mj_O := [(4, 0, 0, 0, []), (1, 0, 0, 0, []), (52, 5, 1, 0, []), (82, 0, 0, 0, [])]
theorem h_X5_forget_0 : mj_ch 5 cX5_forget 0 k_X5_forget_0 6 = true := by decide +kernel
def k_X5_tellInto_0 : List mj_O := [(1, 0, 0, (-9), []), (5, 2, 0, 0, []), (4, 0, 0, 0, []), (1, 0, 0, 0, []), (52, 5, 2, 0, []), (1, 0, 0, 1, []), (5, 3, 0, 0, [])]
theorem h_X5_tellInto_0 : mj_ch 5 cX5_tellInto 0 k_X5_tellInto_0 10 = true := by decide +kernel
def k_X5_tellInto_10 : List mj_O := [(3, 3, 0, 0, []), (1, 0, 0, 96, []), (40, 97, 0, 0, []), (4, 0, 0, 0, []), (50, 5, 2, 0, []), (5, 4, 0, 0, []), (4, 0, 0, 0, []), (70, 99, 0, 0, []), (31, 38, 0, 0, []), (1, 0, 0, (-1000), []), (4, 0, 0, 0, []), (50, 5, 2, 0, []), (11, 0, 0, 0, []), (80, 0, 0, 0, [])]
theorem h_X5_tellInto_10 : mj_ch 5 cX5_tellInto 10 k_X5_tellInto_10 38 = true := by decide +kernel
def k_X5_tellInto_38 : List mj_O := [(3, 2, 0, 0, []), (1, 0, 0, (-9), []), (37, 64, 0, 0, []), (4, 1, 0, 0, []), (4, 0, 0, 0, []), (3, 4, 0, 0, []), (70, 108, 0, 0, []), (4, 0, 0, 0, []), (51, 5, 3, 0, []), (70, 120, 0, 0, []), (31, 64, 0, 0, []), (3, 4, 0, 0, []), (5, 2, 0, 0, [])]
theorem h_X5_tellInto_38 : mj_ch 5 cX5_tellInto 38 k_X5_tellInto_38 64 = true := by decide +kernel
def k_X5_tellInto_64 : List mj_O := [(4, 0, 0, 0, []), (50, 5, 2, 0, []), (4, 0, 0, 0, []), (50, 5, 1, 0, []), (38, 91, 0, 0, []), (3, 2, 0, 0, []), (1, 0, 0, (-9), []), (37, 85, 0, 0, []), (3, 3, 0, 0, []), (42, 90, 0, 0, [])]
theorem h_X5_tellInto_64 : mj_ch 5 cX5_tellInto 64 k_X5_tellInto_64 85 = true := by decide +kernel
def k_X5_tellInto_85 : List mj_O := [(1, 0, 0, (-2000), []), (3, 2, 0, 0, []), (11, 0, 0, 0, [])]
theorem h_X5_tellInto_85 : mj_ch 5 cX5_tellInto 85 k_X5_tellInto_85 90 = true := by decide +kernel
def k_X5_tellInto_90 : List mj_O := [(80, 0, 0, 0, [])]
theorem h_X5_tellInto_90 : mj_ch 5 cX5_tellInto 90 k_X5_tellInto_90 91 = true := by decide +kernel
def k_X5_tellInto_91 : List mj_O := [(7, 3, 0, 1, []), (42, 10, 0, 0, [])]
theorem h_X5_tellInto_91 : mj_ch 5 cX5_tellInto 91 k_X5_tellInto_91 97 = true := by decide +kernel
def k_X5_tellInto_97 : List mj_O := [(1, 0, 0, (-1000), []), (4, 0, 0, 0, []), (50, 5, 2, 0, []), (11, 0, 0, 0, []), (80, 0, 0, 0, [])]
theorem h_X5_tellInto_97 : mj_ch 5 cX5_tellInto 97 k_X5_tellInto_97 106 = true := by decide +kernel
def k_X5_readStatement_0 : List mj_O := [(4, 0, 0, 0, []), (4, 0, 0, 0, []), (50, 5, 2, 0, []), (70, 108, 0, 0, []), (70, 140, 0, 0, []), (6, 1, 0, 0, []), (4, 1, 0, 0, []), (70, 150, 0, 0, []), (30, 21, 0, 0, []), (1, 0, 0, 0, []), (80, 0, 0, 0, [])]
theorem h_X5_readStatement_0 : mj_ch 5 cX5_readStatement 0 k_X5_readStatement_0 21 = true := by decide +kernel
def k_X5_readStatement_21 : List mj_O := [(4, 0, 0, 0, []), (21, 0, 0, 0, []), (50, 5, 2, 0, []), (1, 0, 0, 1, []), (10, 0, 0, 0, []), (52, 5, 2, 0, []), (4, 0, 0, 0, []), (1, 0, 0, 0, []), (52, 5, 4, 0, []), (1, 0, 0, 0, []), (5, 2, 0, 0, [])]
theorem h_X5_readStatement_21 : mj_ch 5 cX5_readStatement 21 k_X5_readStatement_21 38 = true := by decide +kernel
def k_X5_readStatement_38 : List mj_O := [(3, 2, 0, 0, []), (4, 1, 0, 0, []), (70, 165, 0, 0, []), (39, 66, 0, 0, []), (4, 0, 0, 0, []), (4, 1, 0, 0, []), (3, 2, 0, 0, []), (70, 174, 0, 0, []), (70, 186, 0, 0, []), (31, 60, 0, 0, []), (1, 0, 0, 0, []), (80, 0, 0, 0, [])]
theorem h_X5_readStatement_38 : mj_ch 5 cX5_readStatement 38 k_X5_readStatement_38 60 = true := by decide +kernel
def k_X5_readStatement_60 : List mj_O := [(7, 2, 0, 1, []), (42, 38, 0, 0, [])]
theorem h_X5_readStatement_60 : mj_ch 5 cX5_readStatement 60 k_X5_readStatement_60 66 = true := by decide +kernel
def k_X5_readStatement_66 : List mj_O := [(1, 0, 0, 1, []), (80, 0, 0, 0, [])]
theorem h_X5_readStatement_66 : mj_ch 5 cX5_readStatement 66 k_X5_readStatement_66 68 = true := by decide +kernel
def k_X5_formOf_0 : List mj_O := [(3, 0, 0, 0, []), (43, 67, 0, 0, [(98, 61), (99, 55), (102, 64), (115, 52), (116, 58)])]
theorem h_X5_formOf_0 : mj_ch 5 cX5_formOf 0 k_X5_formOf_0 52 = true := by decide +kernel
def k_X5_formOf_52 : List mj_O := [(2, 200, 0, 0, []), (81, 0, 0, 0, [])]
theorem h_X5_formOf_52 : mj_ch 5 cX5_formOf 52 k_X5_formOf_52 55 = true := by decide +kernel
def k_X5_formOf_55 : List mj_O := [(2, 201, 0, 0, []), (81, 0, 0, 0, [])]
theorem h_X5_formOf_55 : mj_ch 5 cX5_formOf 55 k_X5_formOf_55 58 = true := by decide +kernel
def k_X5_formOf_58 : List mj_O := [(2, 202, 0, 0, []), (81, 0, 0, 0, [])]
theorem h_X5_formOf_58 : mj_ch 5 cX5_formOf 58 k_X5_formOf_58 61 = true := by decide +kernel
def k_X5_formOf_61 : List mj_O := [(2, 203, 0, 0, []), (81, 0, 0, 0, [])]
theorem h_X5_formOf_61 : mj_ch 5 cX5_formOf 61 k_X5_formOf_61 64 = true := by decide +kernel
def k_X5_formOf_64 : List mj_O := [(2, 204, 0, 0, []), (81, 0, 0, 0, [])]
theorem h_X5_formOf_64 : mj_ch 5 cX5_formOf 64 k_X5_formOf_64 67 = true := by decide +kernel
def k_X5_formOf_67 : List mj_O := [(2, 205, 0, 0, []), (81, 0, 0, 0, [])]
theorem h_X5_formOf_67 : mj_ch 5 cX5_formOf 67 k_X5_formOf_67 70 = true := by decide +kernel
def k_X5_readPart_0 : List mj_O := [(3, 1, 0, 0, []), (43, 102, 0, 0, [(49, 81), (50, 88), (51, 95), (61, 74), (67, 67), (83, 60)])]
theorem h_X5_readPart_0 : mj_ch 5 cX5_readPart 0 k_X5_readPart_0 60 = true := by decide +kernel
def k_X5_readPart_60 : List mj_O := [(4, 0, 0, 0, []), (2, 206, 0, 0, []), (70, 240, 0, 0, []), (80, 0, 0, 0, [])]
theorem h_X5_readPart_60 : mj_ch 5 cX5_readPart 60 k_X5_readPart_60 67 = true := by decide +kernel
def k_X5_readPart_67 : List mj_O := [(4, 0, 0, 0, []), (2, 207, 0, 0, []), (70, 240, 0, 0, []), (80, 0, 0, 0, [])]
theorem h_X5_readPart_67 : mj_ch 5 cX5_readPart 67 k_X5_readPart_67 74 = true := by decide +kernel
def k_X5_readPart_74 : List mj_O := [(4, 0, 0, 0, []), (1, 0, 0, 2, []), (1, 0, 0, 2, []), (70, 258, 0, 0, []), (80, 0, 0, 0, [])]
theorem h_X5_readPart_74 : mj_ch 5 cX5_readPart 74 k_X5_readPart_74 81 = true := by decide +kernel
def k_X5_readPart_81 : List mj_O := [(4, 0, 0, 0, []), (1, 0, 0, 1, []), (1, 0, 0, 1, []), (70, 258, 0, 0, []), (80, 0, 0, 0, [])]
theorem h_X5_readPart_81 : mj_ch 5 cX5_readPart 81 k_X5_readPart_81 88 = true := by decide +kernel
def k_X5_readPart_88 : List mj_O := [(4, 0, 0, 0, []), (1, 0, 0, 1, []), (1, 0, 0, 2, []), (70, 258, 0, 0, []), (80, 0, 0, 0, [])]
theorem h_X5_readPart_88 : mj_ch 5 cX5_readPart 88 k_X5_readPart_88 95 = true := by decide +kernel
def k_X5_readPart_95 : List mj_O := [(4, 0, 0, 0, []), (1, 0, 0, 1, []), (1, 0, 0, 3, []), (70, 258, 0, 0, []), (80, 0, 0, 0, [])]
theorem h_X5_readPart_95 : mj_ch 5 cX5_readPart 95 k_X5_readPart_95 102 = true := by decide +kernel
def k_X5_readPart_102 : List mj_O := [(4, 0, 0, 0, []), (3, 1, 0, 0, []), (70, 270, 0, 0, []), (80, 0, 0, 0, [])]
theorem h_X5_readPart_102 : mj_ch 5 cX5_readPart 102 k_X5_readPart_102 108 = true := by decide +kernel
def k_X5_readKind_0 : List mj_O := [(4, 0, 0, 0, []), (4, 0, 0, 0, []), (50, 5, 2, 0, []), (70, 108, 0, 0, []), (5, 2, 0, 0, []), (3, 2, 0, 0, []), (1, 0, 0, (-1), []), (37, 18, 0, 0, []), (1, 0, 0, (-1), []), (42, 24, 0, 0, [])]
theorem h_X5_readKind_0 : mj_ch 5 cX5_readKind 0 k_X5_readKind_0 18 = true := by decide +kernel
def k_X5_readKind_18 : List mj_O := [(4, 1, 0, 0, []), (3, 2, 0, 0, []), (20, 0, 0, 0, []), (70, 279, 0, 0, [])]
theorem h_X5_readKind_18 : mj_ch 5 cX5_readKind 18 k_X5_readKind_18 24 = true := by decide +kernel
def k_X5_readKind_24 : List mj_O := [(5, 3, 0, 0, []), (3, 3, 0, 0, []), (33, 31, 0, 0, []), (1, 0, 0, 0, []), (80, 0, 0, 0, [])]
theorem h_X5_readKind_24 : mj_ch 5 cX5_readKind 24 k_X5_readKind_24 31 = true := by decide +kernel
def k_X5_readKind_31 : List mj_O := [(4, 0, 0, 0, []), (3, 3, 0, 0, []), (70, 288, 0, 0, []), (4, 0, 0, 0, []), (21, 0, 0, 0, []), (50, 5, 2, 0, []), (1, 0, 0, 1, []), (10, 0, 0, 0, []), (52, 5, 2, 0, []), (1, 0, 0, 1, []), (80, 0, 0, 0, [])]
theorem h_X5_readKind_31 : mj_ch 5 cX5_readKind 31 k_X5_readKind_31 48 = true := by decide +kernel
def k_X5_readNumber_0 : List mj_O := [(1, 0, 0, 0, []), (5, 3, 0, 0, []), (1, 0, 0, 0, []), (5, 4, 0, 0, [])]
theorem h_X5_readNumber_0 : mj_ch 5 cX5_readNumber 0 k_X5_readNumber_0 5 = true := by decide +kernel
def k_X5_readNumber_5 : List mj_O := [(3, 4, 0, 0, []), (3, 2, 0, 0, []), (39, 58, 0, 0, []), (4, 0, 0, 0, []), (4, 0, 0, 0, []), (50, 5, 2, 0, []), (70, 108, 0, 0, []), (70, 302, 0, 0, []), (30, 58, 0, 0, []), (3, 3, 0, 0, []), (1, 0, 0, 10, []), (12, 0, 0, 0, []), (4, 0, 0, 0, []), (4, 0, 0, 0, []), (50, 5, 2, 0, []), (70, 108, 0, 0, []), (10, 0, 0, 0, []), (1, 0, 0, 48, []), (11, 0, 0, 0, []), (5, 3, 0, 0, []), (7, 4, 0, 1, []), (4, 0, 0, 0, []), (21, 0, 0, 0, []), (50, 5, 2, 0, []), (1, 0, 0, 1, []), (10, 0, 0, 0, []), (52, 5, 2, 0, []), (42, 5, 0, 0, [])]
theorem h_X5_readNumber_5 : mj_ch 5 cX5_readNumber 5 k_X5_readNumber_5 58 = true := by decide +kernel
def k_X5_readNumber_58 : List mj_O := [(4, 0, 0, 0, []), (3, 3, 0, 0, []), (70, 288, 0, 0, []), (3, 4, 0, 0, []), (3, 1, 0, 0, []), (38, 73, 0, 0, []), (1, 0, 0, 1, []), (42, 74, 0, 0, [])]
theorem h_X5_readNumber_58 : mj_ch 5 cX5_readNumber 58 k_X5_readNumber_58 73 = true := by decide +kernel
def k_X5_readNumber_73 : List mj_O := [(1, 0, 0, 0, [])]
theorem h_X5_readNumber_73 : mj_ch 5 cX5_readNumber 73 k_X5_readNumber_73 74 = true := by decide +kernel
def k_X5_readNumber_74 : List mj_O := [(80, 0, 0, 0, [])]
theorem h_X5_readNumber_74 : mj_ch 5 cX5_readNumber 74 k_X5_readNumber_74 75 = true := by decide +kernel
def k_X5_readSign_0 : List mj_O := [(4, 0, 0, 0, []), (4, 0, 0, 0, []), (50, 5, 2, 0, []), (70, 108, 0, 0, []), (3, 1, 0, 0, []), (36, 14, 0, 0, []), (1, 0, 0, 0, []), (80, 0, 0, 0, [])]
theorem h_X5_readSign_0 : mj_ch 5 cX5_readSign 0 k_X5_readSign_0 14 = true := by decide +kernel
def k_X5_readSign_14 : List mj_O := [(4, 0, 0, 0, []), (21, 0, 0, 0, []), (50, 5, 2, 0, []), (1, 0, 0, 1, []), (10, 0, 0, 0, []), (52, 5, 2, 0, []), (1, 0, 0, 1, []), (80, 0, 0, 0, [])]
theorem h_X5_readSign_14 : mj_ch 5 cX5_readSign 14 k_X5_readSign_14 26 = true := by decide +kernel
def k_X5_keep_0 : List mj_O := [(4, 0, 0, 0, []), (50, 5, 4, 0, []), (4, 0, 0, 0, []), (51, 5, 3, 0, []), (65, 0, 0, 0, []), (39, 32, 0, 0, []), (4, 0, 0, 0, []), (51, 5, 3, 0, []), (4, 0, 0, 0, []), (50, 5, 4, 0, []), (3, 1, 0, 0, []), (61, 0, 0, 0, []), (4, 0, 0, 0, []), (21, 0, 0, 0, []), (50, 5, 4, 0, []), (1, 0, 0, 1, []), (10, 0, 0, 0, []), (52, 5, 4, 0, [])]
theorem h_X5_keep_0 : mj_ch 5 cX5_keep 0 k_X5_keep_0 32 = true := by decide +kernel
def k_X5_keep_32 : List mj_O := [(82, 0, 0, 0, [])]
theorem h_X5_keep_32 : mj_ch 5 cX5_keep 32 k_X5_keep_32 33 = true := by decide +kernel
def k_X5_letterAt_0 : List mj_O := [(3, 1, 0, 0, []), (32, 30, 0, 0, []), (3, 1, 0, 0, []), (4, 0, 0, 0, []), (50, 5, 1, 0, []), (39, 30, 0, 0, []), (3, 1, 0, 0, []), (4, 0, 0, 0, []), (51, 5, 0, 0, []), (65, 0, 0, 0, []), (39, 30, 0, 0, []), (4, 0, 0, 0, []), (51, 5, 0, 0, []), (3, 1, 0, 0, []), (62, 0, 0, 0, []), (42, 31, 0, 0, [])]
theorem h_X5_letterAt_0 : mj_ch 5 cX5_letterAt 0 k_X5_letterAt_0 30 = true := by decide +kernel
def k_X5_letterAt_30 : List mj_O := [(1, 0, 0, (-1), [])]
theorem h_X5_letterAt_30 : mj_ch 5 cX5_letterAt 30 k_X5_letterAt_30 31 = true := by decide +kernel
def k_X5_letterAt_31 : List mj_O := [(80, 0, 0, 0, [])]
theorem h_X5_letterAt_31 : mj_ch 5 cX5_letterAt 31 k_X5_letterAt_31 32 = true := by decide +kernel
def k_X5_isDigit_0 : List mj_O := [(3, 0, 0, 0, []), (1, 0, 0, 48, []), (38, 16, 0, 0, []), (3, 0, 0, 0, []), (1, 0, 0, 57, []), (40, 16, 0, 0, []), (1, 0, 0, 1, []), (42, 17, 0, 0, [])]
theorem h_X5_isDigit_0 : mj_ch 5 cX5_isDigit 0 k_X5_isDigit_0 16 = true := by decide +kernel
def k_X5_isDigit_16 : List mj_O := [(1, 0, 0, 0, [])]
theorem h_X5_isDigit_16 : mj_ch 5 cX5_isDigit 16 k_X5_isDigit_16 17 = true := by decide +kernel
def k_X5_isDigit_17 : List mj_O := [(80, 0, 0, 0, [])]
theorem h_X5_isDigit_17 : mj_ch 5 cX5_isDigit 17 k_X5_isDigit_17 18 = true := by decide +kernel
