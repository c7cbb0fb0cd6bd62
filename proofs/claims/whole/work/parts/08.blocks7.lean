/-! blocks of instructions, and that they are the code -/
def k_X7_refuse_0 : List mj_O := [(4, 0, 0, 0, []), (51, 7, 0, 0, []), (3, 1, 0, 0, []), (15, 0, 0, 0, []), (22, 0, 0, 0, []), (60, 0, 0, 0, []), (1, 0, 0, 1, []), (10, 0, 0, 0, []), (61, 0, 0, 0, []), (3, 1, 0, 0, []), (80, 0, 0, 0, [])]
theorem h_X7_refuse_0 : mj_ch 7 cX7_refuse 0 k_X7_refuse_0 13 = true := by decide +kernel
def k_X7_refuseFar_0 : List mj_O := [(1, 0, 0, 1000000000, []), (4, 0, 0, 0, []), (3, 1, 0, 0, []), (70, 123, 0, 0, []), (11, 0, 0, 0, []), (80, 0, 0, 0, [])]
theorem h_X7_refuseFar_0 : mj_ch 7 cX7_refuseFar 0 k_X7_refuseFar_0 9 = true := by decide +kernel
def k_X7_isIn_0 : List mj_O := [(3, 0, 0, 0, []), (32, 13, 0, 0, []), (3, 0, 0, 0, []), (3, 1, 0, 0, []), (39, 13, 0, 0, []), (1, 0, 0, 1, []), (42, 14, 0, 0, [])]
theorem h_X7_isIn_0 : mj_ch 7 cX7_isIn 0 k_X7_isIn_0 13 = true := by decide +kernel
def k_X7_isIn_13 : List mj_O := [(1, 0, 0, 0, [])]
theorem h_X7_isIn_13 : mj_ch 7 cX7_isIn 13 k_X7_isIn_13 14 = true := by decide +kernel
def k_X7_isIn_14 : List mj_O := [(80, 0, 0, 0, [])]
theorem h_X7_isIn_14 : mj_ch 7 cX7_isIn 14 k_X7_isIn_14 15 = true := by decide +kernel
def k_X7_within_0 : List mj_O := [(3, 0, 0, 0, []), (3, 1, 0, 0, []), (39, 10, 0, 0, []), (1, 0, 0, (-4), []), (42, 21, 0, 0, [])]
theorem h_X7_within_0 : mj_ch 7 cX7_within 0 k_X7_within_0 10 = true := by decide +kernel
def k_X7_within_10 : List mj_O := [(3, 0, 0, 0, []), (3, 2, 0, 0, []), (41, 20, 0, 0, []), (1, 0, 0, (-6), []), (42, 21, 0, 0, [])]
theorem h_X7_within_10 : mj_ch 7 cX7_within 10 k_X7_within_10 20 = true := by decide +kernel
def k_X7_within_20 : List mj_O := [(1, 0, 0, 0, [])]
theorem h_X7_within_20 : mj_ch 7 cX7_within 20 k_X7_within_20 21 = true := by decide +kernel
def k_X7_within_21 : List mj_O := [(80, 0, 0, 0, [])]
theorem h_X7_within_21 : mj_ch 7 cX7_within 21 k_X7_within_21 22 = true := by decide +kernel
def k_X7_lays_0 : List mj_O := [(1, 0, 0, 0, []), (5, 2, 0, 0, [])]
theorem h_X7_lays_0 : mj_ch 7 cX7_lays 0 k_X7_lays_0 2 = true := by decide +kernel
def k_X7_lays_2 : List mj_O := [(3, 2, 0, 0, []), (1, 0, 0, 55, []), (39, 20, 0, 0, []), (4, 1, 0, 0, []), (3, 2, 0, 0, []), (4, 0, 0, 0, []), (3, 2, 0, 0, []), (60, 0, 0, 0, []), (61, 0, 0, 0, []), (7, 2, 0, 1, []), (42, 2, 0, 0, [])]
theorem h_X7_lays_2 : mj_ch 7 cX7_lays 2 k_X7_lays_2 20 = true := by decide +kernel
def k_X7_lays_20 : List mj_O := [(82, 0, 0, 0, [])]
theorem h_X7_lays_20 : mj_ch 7 cX7_lays 20 k_X7_lays_20 21 = true := by decide +kernel
def k_X7_begins_0 : List mj_O := [(4, 0, 0, 0, []), (51, 7, 1, 0, []), (4, 0, 0, 0, []), (51, 7, 4, 0, []), (70, 137, 0, 0, []), (82, 0, 0, 0, [])]
theorem h_X7_begins_0 : mj_ch 7 cX7_begins 0 k_X7_begins_0 12 = true := by decide +kernel
def k_X7_ends_0 : List mj_O := [(4, 0, 0, 0, []), (51, 7, 4, 0, []), (4, 0, 0, 0, []), (51, 7, 1, 0, []), (70, 137, 0, 0, []), (82, 0, 0, 0, [])]
theorem h_X7_ends_0 : mj_ch 7 cX7_ends 0 k_X7_ends_0 12 = true := by decide +kernel
def k_X7_isSleeper_0 : List mj_O := [(3, 1, 0, 0, []), (4, 0, 0, 0, []), (51, 7, 1, 0, []), (1, 0, 0, 0, []), (60, 0, 0, 0, []), (70, 149, 0, 0, []), (80, 0, 0, 0, [])]
theorem h_X7_isSleeper_0 : mj_ch 7 cX7_isSleeper 0 k_X7_isSleeper_0 11 = true := by decide +kernel
def k_X7_isClock_0 : List mj_O := [(3, 1, 0, 0, []), (4, 0, 0, 0, []), (51, 7, 1, 0, []), (1, 0, 0, 1, []), (60, 0, 0, 0, []), (70, 149, 0, 0, []), (80, 0, 0, 0, [])]
theorem h_X7_isClock_0 : mj_ch 7 cX7_isClock 0 k_X7_isClock_0 11 = true := by decide +kernel
def k_X7_get_0 : List mj_O := [(4, 0, 0, 0, []), (51, 7, 1, 0, []), (1, 0, 0, 7, []), (1, 0, 0, 4, []), (3, 1, 0, 0, []), (12, 0, 0, 0, []), (10, 0, 0, 0, []), (3, 2, 0, 0, []), (10, 0, 0, 0, []), (60, 0, 0, 0, []), (80, 0, 0, 0, [])]
theorem h_X7_get_0 : mj_ch 7 cX7_get 0 k_X7_get_0 14 = true := by decide +kernel
def k_X7_at_0 : List mj_O := [(4, 0, 0, 0, []), (51, 7, 1, 0, []), (1, 0, 0, 23, []), (1, 0, 0, 5, []), (3, 1, 0, 0, []), (12, 0, 0, 0, []), (10, 0, 0, 0, []), (3, 2, 0, 0, []), (10, 0, 0, 0, []), (60, 0, 0, 0, []), (80, 0, 0, 0, [])]
theorem h_X7_at_0 : mj_ch 7 cX7_at 0 k_X7_at_0 14 = true := by decide +kernel
def k_X7_of_0 : List mj_O := [(4, 0, 0, 0, []), (51, 7, 1, 0, []), (1, 0, 0, 43, []), (1, 0, 0, 2, []), (3, 1, 0, 0, []), (12, 0, 0, 0, []), (10, 0, 0, 0, []), (3, 2, 0, 0, []), (10, 0, 0, 0, []), (60, 0, 0, 0, []), (80, 0, 0, 0, [])]
theorem h_X7_of_0 : mj_ch 7 cX7_of 0 k_X7_of_0 14 = true := by decide +kernel
def k_X7_letter_0 : List mj_O := [(3, 1, 0, 0, []), (1, 0, 0, 0, []), (1, 0, 0, 255, []), (70, 161, 0, 0, []), (5, 2, 0, 0, []), (3, 2, 0, 0, []), (31, 25, 0, 0, []), (4, 0, 0, 0, []), (50, 7, 8, 0, []), (1, 0, 0, 96, []), (37, 25, 0, 0, []), (1, 0, 0, (-6), []), (5, 2, 0, 0, [])]
theorem h_X7_letter_0 : mj_ch 7 cX7_letter 0 k_X7_letter_0 25 = true := by decide +kernel
def k_X7_letter_25 : List mj_O := [(3, 2, 0, 0, []), (30, 35, 0, 0, []), (4, 0, 0, 0, []), (3, 2, 0, 0, []), (70, 123, 0, 0, []), (80, 0, 0, 0, [])]
theorem h_X7_letter_25 : mj_ch 7 cX7_letter 25 k_X7_letter_25 35 = true := by decide +kernel
def k_X7_letter_35 : List mj_O := [(4, 0, 0, 0, []), (51, 7, 6, 0, []), (4, 0, 0, 0, []), (50, 7, 8, 0, []), (3, 1, 0, 0, []), (61, 0, 0, 0, []), (4, 0, 0, 0, []), (21, 0, 0, 0, []), (50, 7, 8, 0, []), (1, 0, 0, 1, []), (10, 0, 0, 0, []), (52, 7, 8, 0, []), (4, 0, 0, 0, []), (50, 7, 8, 0, []), (80, 0, 0, 0, [])]
theorem h_X7_letter_35 : mj_ch 7 cX7_letter 35 k_X7_letter_35 60 = true := by decide +kernel
def k_X7_sign_0 : List mj_O := [(4, 0, 0, 0, []), (50, 7, 9, 0, []), (4, 0, 0, 0, []), (50, 7, 8, 0, []), (39, 23, 0, 0, []), (4, 0, 0, 0, []), (51, 7, 6, 0, []), (4, 0, 0, 0, []), (50, 7, 9, 0, []), (60, 0, 0, 0, []), (42, 24, 0, 0, [])]
theorem h_X7_sign_0 : mj_ch 7 cX7_sign 0 k_X7_sign_0 23 = true := by decide +kernel
def k_X7_sign_23 : List mj_O := [(1, 0, 0, (-1), [])]
theorem h_X7_sign_23 : mj_ch 7 cX7_sign 23 k_X7_sign_23 24 = true := by decide +kernel
def k_X7_sign_24 : List mj_O := [(80, 0, 0, 0, [])]
theorem h_X7_sign_24 : mj_ch 7 cX7_sign 24 k_X7_sign_24 25 = true := by decide +kernel
def k_X7_takes_0 : List mj_O := [(4, 0, 0, 0, []), (70, 192, 0, 0, []), (3, 1, 0, 0, []), (36, 10, 0, 0, []), (1, 0, 0, 0, []), (80, 0, 0, 0, [])]
theorem h_X7_takes_0 : mj_ch 7 cX7_takes 0 k_X7_takes_0 10 = true := by decide +kernel
def k_X7_takes_10 : List mj_O := [(4, 0, 0, 0, []), (21, 0, 0, 0, []), (50, 7, 9, 0, []), (1, 0, 0, 1, []), (10, 0, 0, 0, []), (52, 7, 9, 0, []), (1, 0, 0, 1, []), (80, 0, 0, 0, [])]
theorem h_X7_takes_10 : mj_ch 7 cX7_takes 10 k_X7_takes_10 22 = true := by decide +kernel
def k_X7_readsNumber_0 : List mj_O := [(4, 0, 0, 0, []), (51, 7, 7, 0, []), (3, 1, 0, 0, []), (1, 0, 0, 0, []), (61, 0, 0, 0, []), (1, 0, 0, 0, []), (5, 4, 0, 0, [])]
theorem h_X7_readsNumber_0 : mj_ch 7 cX7_readsNumber 0 k_X7_readsNumber_0 10 = true := by decide +kernel
def k_X7_readsNumber_10 : List mj_O := [(3, 4, 0, 0, []), (3, 3, 0, 0, []), (39, 70, 0, 0, []), (4, 0, 0, 0, []), (70, 192, 0, 0, []), (1, 0, 0, 48, []), (11, 0, 0, 0, []), (1, 0, 0, 10, []), (70, 149, 0, 0, []), (30, 70, 0, 0, []), (4, 0, 0, 0, []), (51, 7, 7, 0, []), (3, 1, 0, 0, []), (1, 0, 0, 10, []), (4, 0, 0, 0, []), (51, 7, 7, 0, []), (3, 1, 0, 0, []), (60, 0, 0, 0, []), (12, 0, 0, 0, []), (4, 0, 0, 0, []), (70, 192, 0, 0, []), (10, 0, 0, 0, []), (1, 0, 0, 48, []), (11, 0, 0, 0, []), (61, 0, 0, 0, []), (4, 0, 0, 0, []), (21, 0, 0, 0, []), (50, 7, 9, 0, []), (1, 0, 0, 1, []), (10, 0, 0, 0, []), (52, 7, 9, 0, []), (7, 4, 0, 1, []), (42, 10, 0, 0, [])]
theorem h_X7_readsNumber_10 : mj_ch 7 cX7_readsNumber 10 k_X7_readsNumber_10 70 = true := by decide +kernel
def k_X7_readsNumber_70 : List mj_O := [(3, 4, 0, 0, []), (3, 2, 0, 0, []), (38, 80, 0, 0, []), (1, 0, 0, 1, []), (42, 81, 0, 0, [])]
theorem h_X7_readsNumber_70 : mj_ch 7 cX7_readsNumber 70 k_X7_readsNumber_70 80 = true := by decide +kernel
def k_X7_readsNumber_80 : List mj_O := [(1, 0, 0, 0, [])]
theorem h_X7_readsNumber_80 : mj_ch 7 cX7_readsNumber 80 k_X7_readsNumber_80 81 = true := by decide +kernel
def k_X7_readsNumber_81 : List mj_O := [(80, 0, 0, 0, [])]
theorem h_X7_readsNumber_81 : mj_ch 7 cX7_readsNumber 81 k_X7_readsNumber_81 82 = true := by decide +kernel
def k_X7_sleeperOf_0 : List mj_O := [(3, 0, 0, 0, []), (1, 0, 0, 115, []), (37, 10, 0, 0, []), (1, 0, 0, 0, []), (42, 62, 0, 0, [])]
theorem h_X7_sleeperOf_0 : mj_ch 7 cX7_sleeperOf 0 k_X7_sleeperOf_0 10 = true := by decide +kernel
def k_X7_sleeperOf_10 : List mj_O := [(3, 0, 0, 0, []), (1, 0, 0, 108, []), (37, 20, 0, 0, []), (1, 0, 0, 1, []), (42, 62, 0, 0, [])]
theorem h_X7_sleeperOf_10 : mj_ch 7 cX7_sleeperOf 10 k_X7_sleeperOf_10 20 = true := by decide +kernel
def k_X7_sleeperOf_20 : List mj_O := [(3, 0, 0, 0, []), (1, 0, 0, 100, []), (37, 30, 0, 0, []), (1, 0, 0, 2, []), (42, 62, 0, 0, [])]
theorem h_X7_sleeperOf_20 : mj_ch 7 cX7_sleeperOf 20 k_X7_sleeperOf_20 30 = true := by decide +kernel
def k_X7_sleeperOf_30 : List mj_O := [(3, 0, 0, 0, []), (1, 0, 0, 111, []), (37, 40, 0, 0, []), (1, 0, 0, 3, []), (42, 62, 0, 0, [])]
theorem h_X7_sleeperOf_30 : mj_ch 7 cX7_sleeperOf 30 k_X7_sleeperOf_30 40 = true := by decide +kernel
def k_X7_sleeperOf_40 : List mj_O := [(3, 0, 0, 0, []), (1, 0, 0, 98, []), (37, 50, 0, 0, []), (1, 0, 0, 4, []), (42, 62, 0, 0, [])]
theorem h_X7_sleeperOf_40 : mj_ch 7 cX7_sleeperOf 40 k_X7_sleeperOf_40 50 = true := by decide +kernel
def k_X7_sleeperOf_50 : List mj_O := [(3, 0, 0, 0, []), (1, 0, 0, 110, []), (37, 60, 0, 0, []), (1, 0, 0, 5, []), (42, 62, 0, 0, [])]
theorem h_X7_sleeperOf_50 : mj_ch 7 cX7_sleeperOf 50 k_X7_sleeperOf_50 60 = true := by decide +kernel
def k_X7_sleeperOf_60 : List mj_O := [(1, 0, 0, (-9), [])]
theorem h_X7_sleeperOf_60 : mj_ch 7 cX7_sleeperOf 60 k_X7_sleeperOf_60 62 = true := by decide +kernel
def k_X7_sleeperOf_62 : List mj_O := [(80, 0, 0, 0, [])]
theorem h_X7_sleeperOf_62 : mj_ch 7 cX7_sleeperOf 62 k_X7_sleeperOf_62 63 = true := by decide +kernel
def k_X7_clockOf_0 : List mj_O := [(3, 0, 0, 0, []), (1, 0, 0, 99, []), (37, 10, 0, 0, []), (1, 0, 0, 0, []), (42, 62, 0, 0, [])]
theorem h_X7_clockOf_0 : mj_ch 7 cX7_clockOf 0 k_X7_clockOf_0 10 = true := by decide +kernel
def k_X7_clockOf_10 : List mj_O := [(3, 0, 0, 0, []), (1, 0, 0, 102, []), (37, 20, 0, 0, []), (1, 0, 0, 1, []), (42, 62, 0, 0, [])]
theorem h_X7_clockOf_10 : mj_ch 7 cX7_clockOf 10 k_X7_clockOf_10 20 = true := by decide +kernel
def k_X7_clockOf_20 : List mj_O := [(3, 0, 0, 0, []), (1, 0, 0, 112, []), (37, 30, 0, 0, []), (1, 0, 0, 2, []), (42, 62, 0, 0, [])]
theorem h_X7_clockOf_20 : mj_ch 7 cX7_clockOf 20 k_X7_clockOf_20 30 = true := by decide +kernel
def k_X7_clockOf_30 : List mj_O := [(3, 0, 0, 0, []), (1, 0, 0, 114, []), (37, 40, 0, 0, []), (1, 0, 0, 3, []), (42, 62, 0, 0, [])]
theorem h_X7_clockOf_30 : mj_ch 7 cX7_clockOf 30 k_X7_clockOf_30 40 = true := by decide +kernel
def k_X7_clockOf_40 : List mj_O := [(3, 0, 0, 0, []), (1, 0, 0, 113, []), (37, 50, 0, 0, []), (1, 0, 0, 4, []), (42, 62, 0, 0, [])]
theorem h_X7_clockOf_40 : mj_ch 7 cX7_clockOf 40 k_X7_clockOf_40 50 = true := by decide +kernel
def k_X7_clockOf_50 : List mj_O := [(3, 0, 0, 0, []), (1, 0, 0, 119, []), (37, 60, 0, 0, []), (1, 0, 0, 5, []), (42, 62, 0, 0, [])]
theorem h_X7_clockOf_50 : mj_ch 7 cX7_clockOf 50 k_X7_clockOf_50 60 = true := by decide +kernel
def k_X7_clockOf_60 : List mj_O := [(1, 0, 0, (-9), [])]
theorem h_X7_clockOf_60 : mj_ch 7 cX7_clockOf 60 k_X7_clockOf_60 62 = true := by decide +kernel
def k_X7_clockOf_62 : List mj_O := [(80, 0, 0, 0, [])]
theorem h_X7_clockOf_62 : mj_ch 7 cX7_clockOf 62 k_X7_clockOf_62 63 = true := by decide +kernel
def k_X7_readsKind_0 : List mj_O := [(4, 0, 0, 0, []), (51, 7, 7, 0, []), (1, 0, 0, 0, []), (3, 1, 0, 0, []), (61, 0, 0, 0, []), (3, 1, 0, 0, []), (33, 13, 0, 0, []), (1, 0, 0, 0, []), (80, 0, 0, 0, [])]
theorem h_X7_readsKind_0 : mj_ch 7 cX7_readsKind 0 k_X7_readsKind_0 13 = true := by decide +kernel
def k_X7_readsKind_13 : List mj_O := [(4, 0, 0, 0, []), (21, 0, 0, 0, []), (50, 7, 9, 0, []), (1, 0, 0, 1, []), (10, 0, 0, 0, []), (52, 7, 9, 0, []), (1, 0, 0, 1, []), (80, 0, 0, 0, [])]
theorem h_X7_readsKind_13 : mj_ch 7 cX7_readsKind 13 k_X7_readsKind_13 25 = true := by decide +kernel
def k_X7_readsStatement_0 : List mj_O := [(4, 0, 0, 0, []), (70, 192, 0, 0, []), (5, 1, 0, 0, []), (1, 0, 0, 0, []), (5, 2, 0, 0, []), (4, 0, 0, 0, []), (21, 0, 0, 0, []), (50, 7, 9, 0, []), (1, 0, 0, 1, []), (10, 0, 0, 0, []), (52, 7, 9, 0, []), (3, 1, 0, 0, []), (43, 289, 0, 0, [(98, 267), (99, 139), (102, 278), (115, 68), (116, 229)])]
theorem h_X7_readsStatement_0 : mj_ch 7 cX7_readsStatement 0 k_X7_readsStatement_0 68 = true := by decide +kernel
def k_X7_readsStatement_68 : List mj_O := [(4, 0, 0, 0, []), (4, 0, 0, 0, []), (70, 192, 0, 0, []), (70, 206, 0, 0, []), (70, 213, 0, 0, []), (30, 134, 0, 0, []), (4, 0, 0, 0, []), (1, 0, 0, 1, []), (1, 0, 0, 2, []), (1, 0, 0, 2, []), (70, 225, 0, 0, []), (30, 134, 0, 0, []), (4, 0, 0, 0, []), (1, 0, 0, 44, []), (70, 237, 0, 0, []), (30, 134, 0, 0, []), (4, 0, 0, 0, []), (1, 0, 0, 2, []), (1, 0, 0, 1, []), (1, 0, 0, 2, []), (70, 225, 0, 0, []), (30, 134, 0, 0, []), (4, 0, 0, 0, []), (1, 0, 0, 44, []), (70, 237, 0, 0, []), (30, 134, 0, 0, []), (4, 0, 0, 0, []), (1, 0, 0, 3, []), (1, 0, 0, 1, []), (1, 0, 0, 2, []), (70, 225, 0, 0, []), (30, 134, 0, 0, []), (1, 0, 0, 1, []), (42, 135, 0, 0, [])]
theorem h_X7_readsStatement_68 : mj_ch 7 cX7_readsStatement 68 k_X7_readsStatement_68 134 = true := by decide +kernel
def k_X7_readsStatement_134 : List mj_O := [(1, 0, 0, 0, [])]
theorem h_X7_readsStatement_134 : mj_ch 7 cX7_readsStatement 134 k_X7_readsStatement_134 135 = true := by decide +kernel
def k_X7_readsStatement_135 : List mj_O := [(5, 2, 0, 0, []), (42, 301, 0, 0, [])]
theorem h_X7_readsStatement_135 : mj_ch 7 cX7_readsStatement 135 k_X7_readsStatement_135 139 = true := by decide +kernel
def k_X7_readsStatement_139 : List mj_O := [(4, 0, 0, 0, []), (4, 0, 0, 0, []), (70, 192, 0, 0, []), (70, 248, 0, 0, []), (70, 213, 0, 0, []), (30, 224, 0, 0, []), (4, 0, 0, 0, []), (1, 0, 0, 1, []), (1, 0, 0, 1, []), (1, 0, 0, 1, []), (70, 225, 0, 0, []), (30, 224, 0, 0, []), (4, 0, 0, 0, []), (1, 0, 0, 44, []), (70, 237, 0, 0, []), (30, 224, 0, 0, []), (4, 0, 0, 0, []), (1, 0, 0, 2, []), (1, 0, 0, 1, []), (1, 0, 0, 3, []), (70, 225, 0, 0, []), (30, 224, 0, 0, []), (4, 0, 0, 0, []), (1, 0, 0, 44, []), (70, 237, 0, 0, []), (30, 224, 0, 0, []), (4, 0, 0, 0, []), (1, 0, 0, 3, []), (1, 0, 0, 1, []), (1, 0, 0, 3, []), (70, 225, 0, 0, []), (30, 224, 0, 0, []), (4, 0, 0, 0, []), (1, 0, 0, 44, []), (70, 237, 0, 0, []), (30, 224, 0, 0, []), (4, 0, 0, 0, []), (1, 0, 0, 4, []), (1, 0, 0, 1, []), (1, 0, 0, 3, []), (70, 225, 0, 0, []), (30, 224, 0, 0, []), (1, 0, 0, 1, []), (42, 225, 0, 0, [])]
theorem h_X7_readsStatement_139 : mj_ch 7 cX7_readsStatement 139 k_X7_readsStatement_139 224 = true := by decide +kernel
def k_X7_readsStatement_224 : List mj_O := [(1, 0, 0, 0, [])]
theorem h_X7_readsStatement_224 : mj_ch 7 cX7_readsStatement 224 k_X7_readsStatement_224 225 = true := by decide +kernel
def k_X7_readsStatement_225 : List mj_O := [(5, 2, 0, 0, []), (42, 301, 0, 0, [])]
theorem h_X7_readsStatement_225 : mj_ch 7 cX7_readsStatement 225 k_X7_readsStatement_225 229 = true := by decide +kernel
def k_X7_readsStatement_229 : List mj_O := [(4, 0, 0, 0, []), (1, 0, 0, 0, []), (1, 0, 0, 1, []), (1, 0, 0, 2, []), (70, 225, 0, 0, []), (30, 262, 0, 0, []), (4, 0, 0, 0, []), (1, 0, 0, 44, []), (70, 237, 0, 0, []), (30, 262, 0, 0, []), (4, 0, 0, 0, []), (1, 0, 0, 1, []), (1, 0, 0, 1, []), (1, 0, 0, 2, []), (70, 225, 0, 0, []), (30, 262, 0, 0, []), (1, 0, 0, 1, []), (42, 263, 0, 0, [])]
theorem h_X7_readsStatement_229 : mj_ch 7 cX7_readsStatement 229 k_X7_readsStatement_229 262 = true := by decide +kernel
def k_X7_readsStatement_262 : List mj_O := [(1, 0, 0, 0, [])]
theorem h_X7_readsStatement_262 : mj_ch 7 cX7_readsStatement 262 k_X7_readsStatement_262 263 = true := by decide +kernel
def k_X7_readsStatement_263 : List mj_O := [(5, 2, 0, 0, []), (42, 301, 0, 0, [])]
theorem h_X7_readsStatement_263 : mj_ch 7 cX7_readsStatement 263 k_X7_readsStatement_263 267 = true := by decide +kernel
def k_X7_readsStatement_267 : List mj_O := [(4, 0, 0, 0, []), (1, 0, 0, 0, []), (1, 0, 0, 1, []), (1, 0, 0, 3, []), (70, 225, 0, 0, []), (5, 2, 0, 0, []), (42, 301, 0, 0, [])]
theorem h_X7_readsStatement_267 : mj_ch 7 cX7_readsStatement 267 k_X7_readsStatement_267 278 = true := by decide +kernel
def k_X7_readsStatement_278 : List mj_O := [(4, 0, 0, 0, []), (1, 0, 0, 0, []), (1, 0, 0, 1, []), (1, 0, 0, 2, []), (70, 225, 0, 0, []), (5, 2, 0, 0, []), (42, 301, 0, 0, [])]
theorem h_X7_readsStatement_278 : mj_ch 7 cX7_readsStatement 278 k_X7_readsStatement_278 289 = true := by decide +kernel
def k_X7_readsStatement_289 : List mj_O := [(4, 0, 0, 0, []), (21, 0, 0, 0, []), (50, 7, 9, 0, []), (1, 0, 0, 1, []), (11, 0, 0, 0, []), (52, 7, 9, 0, []), (1, 0, 0, 0, []), (80, 0, 0, 0, [])]
theorem h_X7_readsStatement_289 : mj_ch 7 cX7_readsStatement 289 k_X7_readsStatement_289 301 = true := by decide +kernel
def k_X7_readsStatement_301 : List mj_O := [(3, 2, 0, 0, []), (30, 318, 0, 0, []), (4, 0, 0, 0, []), (1, 0, 0, 59, []), (70, 237, 0, 0, []), (30, 318, 0, 0, []), (1, 0, 0, 1, []), (42, 319, 0, 0, [])]
theorem h_X7_readsStatement_301 : mj_ch 7 cX7_readsStatement 301 k_X7_readsStatement_301 318 = true := by decide +kernel
def k_X7_readsStatement_318 : List mj_O := [(1, 0, 0, 0, [])]
theorem h_X7_readsStatement_318 : mj_ch 7 cX7_readsStatement 318 k_X7_readsStatement_318 319 = true := by decide +kernel
def k_X7_readsStatement_319 : List mj_O := [(80, 0, 0, 0, [])]
theorem h_X7_readsStatement_319 : mj_ch 7 cX7_readsStatement 319 k_X7_readsStatement_319 320 = true := by decide +kernel
def k_X7_comes_0 : List mj_O := [(3, 1, 0, 0, []), (43, 369, 0, 0, [(98, 339), (99, 138), (115, 44), (116, 256)])]
theorem h_X7_comes_0 : mj_ch 7 cX7_comes 0 k_X7_comes_0 44 = true := by decide +kernel
def k_X7_comes_44 : List mj_O := [(4, 0, 0, 0, []), (51, 7, 7, 0, []), (1, 0, 0, 1, []), (60, 0, 0, 0, []), (1, 0, 0, 20, []), (38, 87, 0, 0, []), (4, 0, 0, 0, []), (51, 7, 7, 0, []), (1, 0, 0, 2, []), (60, 0, 0, 0, []), (1, 0, 0, 20, []), (40, 87, 0, 0, []), (4, 0, 0, 0, []), (51, 7, 7, 0, []), (1, 0, 0, 3, []), (60, 0, 0, 0, []), (1, 0, 0, 30, []), (40, 87, 0, 0, []), (4, 0, 0, 0, []), (51, 7, 1, 0, []), (1, 0, 0, 0, []), (60, 0, 0, 0, []), (1, 0, 0, 4, []), (37, 89, 0, 0, [])]
theorem h_X7_comes_44 : mj_ch 7 cX7_comes 44 k_X7_comes_44 87 = true := by decide +kernel
def k_X7_comes_87 : List mj_O := [(1, 0, 0, 0, []), (80, 0, 0, 0, [])]
theorem h_X7_comes_87 : mj_ch 7 cX7_comes 87 k_X7_comes_87 89 = true := by decide +kernel
def k_X7_comes_89 : List mj_O := [(1, 0, 0, 0, []), (5, 2, 0, 0, [])]
theorem h_X7_comes_89 : mj_ch 7 cX7_comes 89 k_X7_comes_89 91 = true := by decide +kernel
def k_X7_comes_91 : List mj_O := [(3, 2, 0, 0, []), (1, 0, 0, 4, []), (39, 126, 0, 0, []), (4, 0, 0, 0, []), (51, 7, 1, 0, []), (1, 0, 0, 7, []), (1, 0, 0, 4, []), (4, 0, 0, 0, []), (51, 7, 1, 0, []), (1, 0, 0, 0, []), (60, 0, 0, 0, []), (12, 0, 0, 0, []), (10, 0, 0, 0, []), (3, 2, 0, 0, []), (10, 0, 0, 0, []), (4, 0, 0, 0, []), (51, 7, 7, 0, []), (3, 2, 0, 0, []), (60, 0, 0, 0, []), (61, 0, 0, 0, []), (7, 2, 0, 1, []), (42, 91, 0, 0, [])]
theorem h_X7_comes_91 : mj_ch 7 cX7_comes 91 k_X7_comes_91 126 = true := by decide +kernel
def k_X7_comes_126 : List mj_O := [(4, 0, 0, 0, []), (51, 7, 1, 0, []), (1, 0, 0, 0, []), (22, 0, 0, 0, []), (60, 0, 0, 0, []), (1, 0, 0, 1, []), (10, 0, 0, 0, []), (61, 0, 0, 0, []), (1, 0, 0, 1, []), (80, 0, 0, 0, [])]
theorem h_X7_comes_126 : mj_ch 7 cX7_comes 126 k_X7_comes_126 138 = true := by decide +kernel
def k_X7_comes_138 : List mj_O := [(4, 0, 0, 0, []), (4, 0, 0, 0, []), (51, 7, 7, 0, []), (1, 0, 0, 1, []), (60, 0, 0, 0, []), (70, 255, 0, 0, []), (30, 205, 0, 0, []), (4, 0, 0, 0, []), (51, 7, 7, 0, []), (1, 0, 0, 2, []), (60, 0, 0, 0, []), (1, 0, 0, 300, []), (39, 205, 0, 0, []), (4, 0, 0, 0, []), (51, 7, 7, 0, []), (1, 0, 0, 3, []), (60, 0, 0, 0, []), (1, 0, 0, 1, []), (38, 205, 0, 0, []), (4, 0, 0, 0, []), (51, 7, 7, 0, []), (1, 0, 0, 3, []), (60, 0, 0, 0, []), (1, 0, 0, 20, []), (40, 205, 0, 0, []), (4, 0, 0, 0, []), (51, 7, 7, 0, []), (1, 0, 0, 4, []), (60, 0, 0, 0, []), (1, 0, 0, 30, []), (40, 205, 0, 0, []), (4, 0, 0, 0, []), (51, 7, 1, 0, []), (1, 0, 0, 1, []), (60, 0, 0, 0, []), (1, 0, 0, 4, []), (37, 207, 0, 0, [])]
theorem h_X7_comes_138 : mj_ch 7 cX7_comes 138 k_X7_comes_138 205 = true := by decide +kernel
def k_X7_comes_205 : List mj_O := [(1, 0, 0, 0, []), (80, 0, 0, 0, [])]
theorem h_X7_comes_205 : mj_ch 7 cX7_comes 205 k_X7_comes_205 207 = true := by decide +kernel
def k_X7_comes_207 : List mj_O := [(1, 0, 0, 0, []), (5, 2, 0, 0, [])]
theorem h_X7_comes_207 : mj_ch 7 cX7_comes 207 k_X7_comes_207 209 = true := by decide +kernel
def k_X7_comes_209 : List mj_O := [(3, 2, 0, 0, []), (1, 0, 0, 5, []), (39, 244, 0, 0, []), (4, 0, 0, 0, []), (51, 7, 1, 0, []), (1, 0, 0, 23, []), (1, 0, 0, 5, []), (4, 0, 0, 0, []), (51, 7, 1, 0, []), (1, 0, 0, 1, []), (60, 0, 0, 0, []), (12, 0, 0, 0, []), (10, 0, 0, 0, []), (3, 2, 0, 0, []), (10, 0, 0, 0, []), (4, 0, 0, 0, []), (51, 7, 7, 0, []), (3, 2, 0, 0, []), (60, 0, 0, 0, []), (61, 0, 0, 0, []), (7, 2, 0, 1, []), (42, 209, 0, 0, [])]
theorem h_X7_comes_209 : mj_ch 7 cX7_comes 209 k_X7_comes_209 244 = true := by decide +kernel
def k_X7_comes_244 : List mj_O := [(4, 0, 0, 0, []), (51, 7, 1, 0, []), (1, 0, 0, 1, []), (22, 0, 0, 0, []), (60, 0, 0, 0, []), (1, 0, 0, 1, []), (10, 0, 0, 0, []), (61, 0, 0, 0, []), (1, 0, 0, 1, []), (80, 0, 0, 0, [])]
theorem h_X7_comes_244 : mj_ch 7 cX7_comes 244 k_X7_comes_244 256 = true := by decide +kernel
def k_X7_comes_256 : List mj_O := [(4, 0, 0, 0, []), (51, 7, 7, 0, []), (1, 0, 0, 0, []), (60, 0, 0, 0, []), (1, 0, 0, 1, []), (38, 288, 0, 0, []), (4, 0, 0, 0, []), (51, 7, 7, 0, []), (1, 0, 0, 0, []), (60, 0, 0, 0, []), (1, 0, 0, 60, []), (40, 288, 0, 0, []), (4, 0, 0, 0, []), (51, 7, 1, 0, []), (1, 0, 0, 2, []), (60, 0, 0, 0, []), (1, 0, 0, 6, []), (37, 290, 0, 0, [])]
theorem h_X7_comes_256 : mj_ch 7 cX7_comes 256 k_X7_comes_256 288 = true := by decide +kernel
def k_X7_comes_288 : List mj_O := [(1, 0, 0, 0, []), (80, 0, 0, 0, [])]
theorem h_X7_comes_288 : mj_ch 7 cX7_comes 288 k_X7_comes_288 290 = true := by decide +kernel
def k_X7_comes_290 : List mj_O := [(1, 0, 0, 0, []), (5, 2, 0, 0, [])]
theorem h_X7_comes_290 : mj_ch 7 cX7_comes 290 k_X7_comes_290 292 = true := by decide +kernel
def k_X7_comes_292 : List mj_O := [(3, 2, 0, 0, []), (1, 0, 0, 2, []), (39, 327, 0, 0, []), (4, 0, 0, 0, []), (51, 7, 1, 0, []), (1, 0, 0, 43, []), (1, 0, 0, 2, []), (4, 0, 0, 0, []), (51, 7, 1, 0, []), (1, 0, 0, 2, []), (60, 0, 0, 0, []), (12, 0, 0, 0, []), (10, 0, 0, 0, []), (3, 2, 0, 0, []), (10, 0, 0, 0, []), (4, 0, 0, 0, []), (51, 7, 7, 0, []), (3, 2, 0, 0, []), (60, 0, 0, 0, []), (61, 0, 0, 0, []), (7, 2, 0, 1, []), (42, 292, 0, 0, [])]
theorem h_X7_comes_292 : mj_ch 7 cX7_comes 292 k_X7_comes_292 327 = true := by decide +kernel
def k_X7_comes_327 : List mj_O := [(4, 0, 0, 0, []), (51, 7, 1, 0, []), (1, 0, 0, 2, []), (22, 0, 0, 0, []), (60, 0, 0, 0, []), (1, 0, 0, 1, []), (10, 0, 0, 0, []), (61, 0, 0, 0, []), (1, 0, 0, 1, []), (80, 0, 0, 0, [])]
theorem h_X7_comes_327 : mj_ch 7 cX7_comes 327 k_X7_comes_327 339 = true := by decide +kernel
def k_X7_comes_339 : List mj_O := [(4, 0, 0, 0, []), (51, 7, 1, 0, []), (1, 0, 0, 3, []), (4, 0, 0, 0, []), (51, 7, 7, 0, []), (1, 0, 0, 0, []), (60, 0, 0, 0, []), (61, 0, 0, 0, []), (4, 0, 0, 0, []), (51, 7, 7, 0, []), (1, 0, 0, 0, []), (60, 0, 0, 0, []), (1, 0, 0, 300, []), (39, 367, 0, 0, []), (1, 0, 0, 1, []), (42, 368, 0, 0, [])]
theorem h_X7_comes_339 : mj_ch 7 cX7_comes 339 k_X7_comes_339 367 = true := by decide +kernel
def k_X7_comes_367 : List mj_O := [(1, 0, 0, 0, [])]
theorem h_X7_comes_367 : mj_ch 7 cX7_comes 367 k_X7_comes_367 368 = true := by decide +kernel
def k_X7_comes_368 : List mj_O := [(80, 0, 0, 0, [])]
theorem h_X7_comes_368 : mj_ch 7 cX7_comes 368 k_X7_comes_368 369 = true := by decide +kernel
def k_X7_comes_369 : List mj_O := [(4, 0, 0, 0, []), (51, 7, 1, 0, []), (1, 0, 0, 4, []), (4, 0, 0, 0, []), (51, 7, 7, 0, []), (1, 0, 0, 0, []), (60, 0, 0, 0, []), (61, 0, 0, 0, []), (1, 0, 0, 1, []), (80, 0, 0, 0, [])]
theorem h_X7_comes_369 : mj_ch 7 cX7_comes 369 k_X7_comes_369 383 = true := by decide +kernel
def k_X7_reads_0 : List mj_O := [(4, 0, 0, 0, []), (1, 0, 0, 0, []), (52, 7, 9, 0, []), (1, 0, 0, 0, []), (5, 1, 0, 0, [])]
theorem h_X7_reads_0 : mj_ch 7 cX7_reads 0 k_X7_reads_0 7 = true := by decide +kernel
def k_X7_reads_7 : List mj_O := [(4, 0, 0, 0, []), (70, 264, 0, 0, []), (31, 23, 0, 0, []), (1, 0, 0, (-1000), []), (4, 0, 0, 0, []), (50, 7, 9, 0, []), (11, 0, 0, 0, []), (80, 0, 0, 0, [])]
theorem h_X7_reads_7 : mj_ch 7 cX7_reads 7 k_X7_reads_7 23 = true := by decide +kernel
def k_X7_reads_23 : List mj_O := [(7, 1, 0, 1, []), (4, 0, 0, 0, []), (50, 7, 9, 0, []), (4, 0, 0, 0, []), (50, 7, 8, 0, []), (38, 7, 0, 0, []), (4, 0, 0, 0, []), (51, 7, 1, 0, []), (4, 0, 0, 0, []), (51, 7, 3, 0, []), (70, 137, 0, 0, []), (4, 0, 0, 0, []), (1, 0, 0, 0, []), (52, 7, 9, 0, [])]
theorem h_X7_reads_23 : mj_ch 7 cX7_reads 23 k_X7_reads_23 53 = true := by decide +kernel
def k_X7_reads_53 : List mj_O := [(4, 0, 0, 0, []), (50, 7, 9, 0, []), (4, 0, 0, 0, []), (50, 7, 8, 0, []), (39, 108, 0, 0, []), (4, 0, 0, 0, []), (50, 7, 9, 0, []), (5, 2, 0, 0, []), (4, 0, 0, 0, []), (70, 192, 0, 0, []), (5, 3, 0, 0, []), (4, 0, 0, 0, []), (70, 264, 0, 0, []), (5, 4, 0, 0, []), (4, 0, 0, 0, []), (3, 3, 0, 0, []), (70, 276, 0, 0, []), (31, 105, 0, 0, []), (4, 0, 0, 0, []), (51, 7, 3, 0, []), (4, 0, 0, 0, []), (51, 7, 1, 0, []), (70, 137, 0, 0, []), (1, 0, 0, (-2000), []), (3, 2, 0, 0, []), (11, 0, 0, 0, []), (80, 0, 0, 0, [])]
theorem h_X7_reads_53 : mj_ch 7 cX7_reads 53 k_X7_reads_53 105 = true := by decide +kernel
def k_X7_reads_105 : List mj_O := [(42, 53, 0, 0, [])]
theorem h_X7_reads_105 : mj_ch 7 cX7_reads 105 k_X7_reads_105 108 = true := by decide +kernel
def k_X7_reads_108 : List mj_O := [(3, 1, 0, 0, []), (80, 0, 0, 0, [])]
theorem h_X7_reads_108 : mj_ch 7 cX7_reads 108 k_X7_reads_108 110 = true := by decide +kernel
def k_X7_room_0 : List mj_O := [(4, 0, 0, 0, []), (70, 285, 0, 0, []), (5, 1, 0, 0, []), (4, 0, 0, 0, []), (1, 0, 0, 0, []), (52, 7, 8, 0, []), (3, 1, 0, 0, []), (80, 0, 0, 0, [])]
theorem h_X7_room_0 : mj_ch 7 cX7_room 0 k_X7_room_0 12 = true := by decide +kernel
def k_X7_sleeper_0 : List mj_O := [(4, 0, 0, 0, []), (3, 1, 0, 0, []), (70, 255, 0, 0, []), (31, 14, 0, 0, []), (4, 0, 0, 0, []), (1, 0, 0, (-1), []), (70, 123, 0, 0, []), (80, 0, 0, 0, [])]
theorem h_X7_sleeper_0 : mj_ch 7 cX7_sleeper 0 k_X7_sleeper_0 14 = true := by decide +kernel
def k_X7_sleeper_14 : List mj_O := [(3, 2, 0, 0, []), (1, 0, 0, 4, []), (70, 149, 0, 0, []), (30, 31, 0, 0, []), (4, 0, 0, 0, []), (3, 1, 0, 0, []), (3, 2, 0, 0, []), (70, 294, 0, 0, []), (42, 37, 0, 0, [])]
theorem h_X7_sleeper_14 : mj_ch 7 cX7_sleeper 14 k_X7_sleeper_14 31 = true := by decide +kernel
def k_X7_sleeper_31 : List mj_O := [(4, 0, 0, 0, []), (1, 0, 0, (-2), []), (70, 123, 0, 0, [])]
theorem h_X7_sleeper_31 : mj_ch 7 cX7_sleeper 31 k_X7_sleeper_31 37 = true := by decide +kernel
def k_X7_sleeper_37 : List mj_O := [(80, 0, 0, 0, [])]
theorem h_X7_sleeper_37 : mj_ch 7 cX7_sleeper 37 k_X7_sleeper_37 38 = true := by decide +kernel
def k_X7_clock_0 : List mj_O := [(4, 0, 0, 0, []), (3, 1, 0, 0, []), (70, 306, 0, 0, []), (31, 14, 0, 0, []), (4, 0, 0, 0, []), (1, 0, 0, (-1), []), (70, 123, 0, 0, []), (80, 0, 0, 0, [])]
theorem h_X7_clock_0 : mj_ch 7 cX7_clock 0 k_X7_clock_0 14 = true := by decide +kernel
def k_X7_clock_14 : List mj_O := [(3, 2, 0, 0, []), (1, 0, 0, 5, []), (70, 149, 0, 0, []), (30, 31, 0, 0, []), (4, 0, 0, 0, []), (3, 1, 0, 0, []), (3, 2, 0, 0, []), (70, 315, 0, 0, []), (42, 37, 0, 0, [])]
theorem h_X7_clock_14 : mj_ch 7 cX7_clock 14 k_X7_clock_14 31 = true := by decide +kernel
def k_X7_clock_31 : List mj_O := [(4, 0, 0, 0, []), (1, 0, 0, (-2), []), (70, 123, 0, 0, [])]
theorem h_X7_clock_31 : mj_ch 7 cX7_clock 31 k_X7_clock_31 37 = true := by decide +kernel
def k_X7_clock_37 : List mj_O := [(80, 0, 0, 0, [])]
theorem h_X7_clock_37 : mj_ch 7 cX7_clock 37 k_X7_clock_37 38 = true := by decide +kernel
def k_X7_task_0 : List mj_O := [(3, 1, 0, 0, []), (4, 0, 0, 0, []), (51, 7, 1, 0, []), (1, 0, 0, 2, []), (60, 0, 0, 0, []), (70, 149, 0, 0, []), (31, 19, 0, 0, []), (4, 0, 0, 0, []), (1, 0, 0, (-1), []), (70, 123, 0, 0, []), (80, 0, 0, 0, [])]
theorem h_X7_task_0 : mj_ch 7 cX7_task 0 k_X7_task_0 19 = true := by decide +kernel
def k_X7_task_19 : List mj_O := [(3, 2, 0, 0, []), (1, 0, 0, 2, []), (70, 149, 0, 0, []), (30, 36, 0, 0, []), (4, 0, 0, 0, []), (3, 1, 0, 0, []), (3, 2, 0, 0, []), (70, 324, 0, 0, []), (42, 42, 0, 0, [])]
theorem h_X7_task_19 : mj_ch 7 cX7_task 19 k_X7_task_19 36 = true := by decide +kernel
def k_X7_task_36 : List mj_O := [(4, 0, 0, 0, []), (1, 0, 0, (-2), []), (70, 123, 0, 0, [])]
theorem h_X7_task_36 : mj_ch 7 cX7_task 36 k_X7_task_36 42 = true := by decide +kernel
def k_X7_task_42 : List mj_O := [(80, 0, 0, 0, [])]
theorem h_X7_task_42 : mj_ch 7 cX7_task 42 k_X7_task_42 43 = true := by decide +kernel
def k_X7_changes_0 : List mj_O := [(3, 3, 0, 0, []), (30, 10, 0, 0, []), (4, 0, 0, 0, []), (3, 3, 0, 0, []), (70, 123, 0, 0, []), (80, 0, 0, 0, [])]
theorem h_X7_changes_0 : mj_ch 7 cX7_changes 0 k_X7_changes_0 10 = true := by decide +kernel
def k_X7_changes_10 : List mj_O := [(4, 0, 0, 0, []), (51, 7, 1, 0, []), (3, 1, 0, 0, []), (60, 0, 0, 0, []), (5, 4, 0, 0, []), (4, 0, 0, 0, []), (51, 7, 1, 0, []), (3, 1, 0, 0, []), (3, 2, 0, 0, []), (61, 0, 0, 0, []), (3, 4, 0, 0, []), (80, 0, 0, 0, [])]
theorem h_X7_changes_10 : mj_ch 7 cX7_changes 10 k_X7_changes_10 28 = true := by decide +kernel
def k_X7_set_0 : List mj_O := [(4, 0, 0, 0, []), (1, 0, 0, 23, []), (1, 0, 0, 5, []), (3, 1, 0, 0, []), (12, 0, 0, 0, []), (10, 0, 0, 0, []), (1, 0, 0, 2, []), (10, 0, 0, 0, []), (3, 2, 0, 0, []), (4, 0, 0, 0, []), (3, 1, 0, 0, []), (70, 306, 0, 0, []), (30, 29, 0, 0, []), (3, 2, 0, 0, []), (1, 0, 0, 0, []), (1, 0, 0, 299, []), (70, 161, 0, 0, []), (42, 30, 0, 0, [])]
theorem h_X7_set_0 : mj_ch 7 cX7_set 0 k_X7_set_0 29 = true := by decide +kernel
def k_X7_set_29 : List mj_O := [(1, 0, 0, (-1), [])]
theorem h_X7_set_29 : mj_ch 7 cX7_set 29 k_X7_set_29 30 = true := by decide +kernel
def k_X7_set_30 : List mj_O := [(70, 333, 0, 0, []), (80, 0, 0, 0, [])]
theorem h_X7_set_30 : mj_ch 7 cX7_set 30 k_X7_set_30 34 = true := by decide +kernel
def k_X7_every_0 : List mj_O := [(4, 0, 0, 0, []), (1, 0, 0, 23, []), (1, 0, 0, 5, []), (3, 1, 0, 0, []), (12, 0, 0, 0, []), (10, 0, 0, 0, []), (1, 0, 0, 3, []), (10, 0, 0, 0, []), (3, 2, 0, 0, []), (4, 0, 0, 0, []), (3, 1, 0, 0, []), (70, 306, 0, 0, []), (30, 28, 0, 0, []), (3, 2, 0, 0, []), (1, 0, 0, 1, []), (1, 0, 0, 20, []), (70, 161, 0, 0, []), (42, 29, 0, 0, [])]
theorem h_X7_every_0 : mj_ch 7 cX7_every 0 k_X7_every_0 28 = true := by decide +kernel
def k_X7_every_28 : List mj_O := [(1, 0, 0, (-1), [])]
theorem h_X7_every_28 : mj_ch 7 cX7_every 28 k_X7_every_28 29 = true := by decide +kernel
def k_X7_every_29 : List mj_O := [(70, 333, 0, 0, []), (80, 0, 0, 0, [])]
theorem h_X7_every_29 : mj_ch 7 cX7_every 29 k_X7_every_29 33 = true := by decide +kernel
def k_X7_firm_0 : List mj_O := [(4, 0, 0, 0, []), (1, 0, 0, 4, []), (3, 1, 0, 0, []), (3, 1, 0, 0, []), (1, 0, 0, 0, []), (1, 0, 0, 99, []), (70, 161, 0, 0, []), (70, 333, 0, 0, []), (80, 0, 0, 0, [])]
theorem h_X7_firm_0 : mj_ch 7 cX7_firm 0 k_X7_firm_0 14 = true := by decide +kernel
def k_X7_bus_0 : List mj_O := [(4, 0, 0, 0, []), (1, 0, 0, 3, []), (3, 1, 0, 0, []), (3, 1, 0, 0, []), (1, 0, 0, 0, []), (1, 0, 0, 299, []), (70, 161, 0, 0, []), (70, 333, 0, 0, []), (80, 0, 0, 0, [])]
theorem h_X7_bus_0 : mj_ch 7 cX7_bus 0 k_X7_bus_0 15 = true := by decide +kernel
def k_X7_tired_0 : List mj_O := [(4, 0, 0, 0, []), (1, 0, 0, 5, []), (3, 1, 0, 0, []), (3, 1, 0, 0, []), (1, 0, 0, 0, []), (1, 0, 0, 9, []), (70, 161, 0, 0, []), (70, 333, 0, 0, []), (80, 0, 0, 0, [])]
theorem h_X7_tired_0 : mj_ch 7 cX7_tired 0 k_X7_tired_0 14 = true := by decide +kernel
def k_X7_depthOf_0 : List mj_O := [(4, 0, 0, 0, []), (3, 1, 0, 0, []), (1, 0, 0, 1, []), (70, 294, 0, 0, []), (5, 3, 0, 0, []), (3, 2, 0, 0, []), (3, 3, 0, 0, []), (14, 0, 0, 0, []), (5, 4, 0, 0, []), (3, 4, 0, 0, []), (3, 3, 0, 0, []), (3, 4, 0, 0, []), (11, 0, 0, 0, []), (39, 26, 0, 0, []), (3, 4, 0, 0, []), (42, 30, 0, 0, [])]
theorem h_X7_depthOf_0 : mj_ch 7 cX7_depthOf 0 k_X7_depthOf_0 26 = true := by decide +kernel
def k_X7_depthOf_26 : List mj_O := [(3, 3, 0, 0, []), (3, 4, 0, 0, []), (11, 0, 0, 0, [])]
theorem h_X7_depthOf_26 : mj_ch 7 cX7_depthOf 26 k_X7_depthOf_26 30 = true := by decide +kernel
def k_X7_depthOf_30 : List mj_O := [(5, 5, 0, 0, []), (3, 5, 0, 0, []), (4, 0, 0, 0, []), (3, 1, 0, 0, []), (1, 0, 0, 2, []), (70, 294, 0, 0, []), (12, 0, 0, 0, []), (1, 0, 0, 2, []), (12, 0, 0, 0, []), (3, 3, 0, 0, []), (13, 0, 0, 0, []), (4, 0, 0, 0, []), (51, 7, 1, 0, []), (1, 0, 0, 5, []), (60, 0, 0, 0, []), (10, 0, 0, 0, []), (5, 6, 0, 0, []), (4, 0, 0, 0, []), (3, 1, 0, 0, []), (1, 0, 0, 0, []), (70, 294, 0, 0, []), (43, 157, 0, 0, [(1, 96), (2, 101), (3, 106), (4, 120), (5, 136)])]
theorem h_X7_depthOf_30 : mj_ch 7 cX7_depthOf 30 k_X7_depthOf_30 96 = true := by decide +kernel
def k_X7_depthOf_96 : List mj_O := [(3, 6, 0, 0, []), (1, 0, 0, 2, []), (13, 0, 0, 0, []), (80, 0, 0, 0, [])]
theorem h_X7_depthOf_96 : mj_ch 7 cX7_depthOf 96 k_X7_depthOf_96 101 = true := by decide +kernel
def k_X7_depthOf_101 : List mj_O := [(3, 6, 0, 0, []), (1, 0, 0, 4, []), (10, 0, 0, 0, []), (80, 0, 0, 0, [])]
theorem h_X7_depthOf_101 : mj_ch 7 cX7_depthOf 101 k_X7_depthOf_101 106 = true := by decide +kernel
def k_X7_depthOf_106 : List mj_O := [(3, 6, 0, 0, []), (1, 0, 0, 4, []), (10, 0, 0, 0, []), (1, 0, 0, 300, []), (3, 2, 0, 0, []), (11, 0, 0, 0, []), (1, 0, 0, 30, []), (13, 0, 0, 0, []), (10, 0, 0, 0, []), (80, 0, 0, 0, [])]
theorem h_X7_depthOf_106 : mj_ch 7 cX7_depthOf 106 k_X7_depthOf_106 120 = true := by decide +kernel
def k_X7_depthOf_120 : List mj_O := [(3, 2, 0, 0, []), (1, 0, 0, 10, []), (14, 0, 0, 0, []), (31, 131, 0, 0, []), (1, 0, 0, 0, []), (42, 135, 0, 0, [])]
theorem h_X7_depthOf_120 : mj_ch 7 cX7_depthOf 120 k_X7_depthOf_120 131 = true := by decide +kernel
def k_X7_depthOf_131 : List mj_O := [(3, 6, 0, 0, []), (1, 0, 0, 2, []), (13, 0, 0, 0, [])]
theorem h_X7_depthOf_131 : mj_ch 7 cX7_depthOf 131 k_X7_depthOf_131 135 = true := by decide +kernel
def k_X7_depthOf_135 : List mj_O := [(80, 0, 0, 0, [])]
theorem h_X7_depthOf_135 : mj_ch 7 cX7_depthOf 135 k_X7_depthOf_135 136 = true := by decide +kernel
def k_X7_depthOf_136 : List mj_O := [(4, 0, 0, 0, []), (51, 7, 1, 0, []), (1, 0, 0, 6, []), (60, 0, 0, 0, []), (1, 0, 0, 4, []), (41, 152, 0, 0, []), (3, 6, 0, 0, []), (42, 156, 0, 0, [])]
theorem h_X7_depthOf_136 : mj_ch 7 cX7_depthOf 136 k_X7_depthOf_136 152 = true := by decide +kernel
def k_X7_depthOf_152 : List mj_O := [(3, 6, 0, 0, []), (1, 0, 0, 2, []), (13, 0, 0, 0, [])]
theorem h_X7_depthOf_152 : mj_ch 7 cX7_depthOf 152 k_X7_depthOf_152 156 = true := by decide +kernel
def k_X7_depthOf_156 : List mj_O := [(80, 0, 0, 0, [])]
theorem h_X7_depthOf_156 : mj_ch 7 cX7_depthOf 156 k_X7_depthOf_156 157 = true := by decide +kernel
def k_X7_depthOf_157 : List mj_O := [(3, 6, 0, 0, []), (80, 0, 0, 0, [])]
theorem h_X7_depthOf_157 : mj_ch 7 cX7_depthOf 157 k_X7_depthOf_157 160 = true := by decide +kernel
def k_X7_depth_0 : List mj_O := [(4, 0, 0, 0, []), (3, 1, 0, 0, []), (70, 255, 0, 0, []), (30, 19, 0, 0, []), (3, 2, 0, 0, []), (1, 0, 0, 0, []), (1, 0, 0, 299, []), (70, 161, 0, 0, []), (42, 20, 0, 0, [])]
theorem h_X7_depth_0 : mj_ch 7 cX7_depth 0 k_X7_depth_0 19 = true := by decide +kernel
def k_X7_depth_19 : List mj_O := [(1, 0, 0, (-1), [])]
theorem h_X7_depth_19 : mj_ch 7 cX7_depth 19 k_X7_depth_19 20 = true := by decide +kernel
def k_X7_depth_20 : List mj_O := [(5, 3, 0, 0, []), (3, 3, 0, 0, []), (30, 33, 0, 0, []), (4, 0, 0, 0, []), (3, 3, 0, 0, []), (70, 123, 0, 0, []), (42, 39, 0, 0, [])]
theorem h_X7_depth_20 : mj_ch 7 cX7_depth 20 k_X7_depth_20 33 = true := by decide +kernel
def k_X7_depth_33 : List mj_O := [(4, 0, 0, 0, []), (3, 1, 0, 0, []), (3, 2, 0, 0, []), (70, 342, 0, 0, [])]
theorem h_X7_depth_33 : mj_ch 7 cX7_depth 33 k_X7_depth_33 39 = true := by decide +kernel
def k_X7_depth_39 : List mj_O := [(80, 0, 0, 0, [])]
theorem h_X7_depth_39 : mj_ch 7 cX7_depth 39 k_X7_depth_39 40 = true := by decide +kernel
def k_X7_wakes_0 : List mj_O := [(4, 0, 0, 0, []), (3, 1, 0, 0, []), (1, 0, 0, 4, []), (70, 315, 0, 0, []), (4, 0, 0, 0, []), (3, 1, 0, 0, []), (1, 0, 0, 0, []), (70, 315, 0, 0, []), (1, 0, 0, 2, []), (37, 21, 0, 0, []), (1, 0, 0, 8, []), (42, 39, 0, 0, [])]
theorem h_X7_wakes_0 : mj_ch 7 cX7_wakes 0 k_X7_wakes_0 21 = true := by decide +kernel
def k_X7_wakes_21 : List mj_O := [(4, 0, 0, 0, []), (3, 1, 0, 0, []), (1, 0, 0, 0, []), (70, 315, 0, 0, []), (1, 0, 0, 3, []), (37, 38, 0, 0, []), (3, 3, 0, 0, []), (1, 0, 0, 10, []), (13, 0, 0, 0, []), (42, 39, 0, 0, [])]
theorem h_X7_wakes_21 : mj_ch 7 cX7_wakes 21 k_X7_wakes_21 38 = true := by decide +kernel
def k_X7_wakes_38 : List mj_O := [(1, 0, 0, 0, [])]
theorem h_X7_wakes_38 : mj_ch 7 cX7_wakes 38 k_X7_wakes_38 39 = true := by decide +kernel
def k_X7_wakes_39 : List mj_O := [(10, 0, 0, 0, []), (5, 4, 0, 0, []), (3, 4, 0, 0, []), (4, 0, 0, 0, []), (3, 2, 0, 0, []), (3, 3, 0, 0, []), (70, 342, 0, 0, []), (38, 57, 0, 0, []), (1, 0, 0, 1, []), (42, 58, 0, 0, [])]
theorem h_X7_wakes_39 : mj_ch 7 cX7_wakes 39 k_X7_wakes_39 57 = true := by decide +kernel
def k_X7_wakes_57 : List mj_O := [(1, 0, 0, 0, [])]
theorem h_X7_wakes_57 : mj_ch 7 cX7_wakes 57 k_X7_wakes_57 58 = true := by decide +kernel
def k_X7_wakes_58 : List mj_O := [(80, 0, 0, 0, [])]
theorem h_X7_wakes_58 : mj_ch 7 cX7_wakes 58 k_X7_wakes_58 59 = true := by decide +kernel
def k_X7_mayPress_0 : List mj_O := [(4, 0, 0, 0, []), (3, 1, 0, 0, []), (1, 0, 0, 0, []), (70, 315, 0, 0, []), (5, 3, 0, 0, []), (3, 3, 0, 0, []), (1, 0, 0, 1, []), (36, 17, 0, 0, []), (3, 3, 0, 0, []), (1, 0, 0, 2, []), (37, 29, 0, 0, [])]
theorem h_X7_mayPress_0 : mj_ch 7 cX7_mayPress 0 k_X7_mayPress_0 17 = true := by decide +kernel
def k_X7_mayPress_17 : List mj_O := [(3, 2, 0, 0, []), (31, 25, 0, 0, []), (1, 0, 0, 1, []), (42, 39, 0, 0, [])]
theorem h_X7_mayPress_17 : mj_ch 7 cX7_mayPress 17 k_X7_mayPress_17 25 = true := by decide +kernel
def k_X7_mayPress_25 : List mj_O := [(1, 0, 0, 0, []), (42, 39, 0, 0, [])]
theorem h_X7_mayPress_25 : mj_ch 7 cX7_mayPress 25 k_X7_mayPress_25 29 = true := by decide +kernel
def k_X7_mayPress_29 : List mj_O := [(3, 3, 0, 0, []), (1, 0, 0, 5, []), (36, 38, 0, 0, []), (1, 0, 0, 1, []), (42, 39, 0, 0, [])]
theorem h_X7_mayPress_29 : mj_ch 7 cX7_mayPress 29 k_X7_mayPress_29 38 = true := by decide +kernel
def k_X7_mayPress_38 : List mj_O := [(1, 0, 0, 0, [])]
theorem h_X7_mayPress_38 : mj_ch 7 cX7_mayPress 38 k_X7_mayPress_38 39 = true := by decide +kernel
def k_X7_mayPress_39 : List mj_O := [(80, 0, 0, 0, [])]
theorem h_X7_mayPress_39 : mj_ch 7 cX7_mayPress 39 k_X7_mayPress_39 40 = true := by decide +kernel
def k_X7_later_0 : List mj_O := [(4, 0, 0, 0, []), (3, 1, 0, 0, []), (1, 0, 0, 0, []), (70, 315, 0, 0, []), (5, 3, 0, 0, []), (4, 0, 0, 0, []), (3, 1, 0, 0, []), (1, 0, 0, 3, []), (70, 315, 0, 0, []), (5, 4, 0, 0, []), (3, 3, 0, 0, []), (1, 0, 0, 3, []), (37, 24, 0, 0, []), (1, 0, 0, 1, []), (42, 50, 0, 0, [])]
theorem h_X7_later_0 : mj_ch 7 cX7_later 0 k_X7_later_0 24 = true := by decide +kernel
def k_X7_later_24 : List mj_O := [(3, 3, 0, 0, []), (1, 0, 0, 4, []), (36, 34, 0, 0, []), (3, 4, 0, 0, []), (42, 50, 0, 0, [])]
theorem h_X7_later_24 : mj_ch 7 cX7_later 24 k_X7_later_24 34 = true := by decide +kernel
def k_X7_later_34 : List mj_O := [(3, 4, 0, 0, []), (3, 2, 0, 0, []), (1, 0, 0, 1, []), (10, 0, 0, 0, []), (41, 49, 0, 0, []), (3, 4, 0, 0, []), (3, 2, 0, 0, []), (11, 0, 0, 0, []), (42, 50, 0, 0, [])]
theorem h_X7_later_34 : mj_ch 7 cX7_later 34 k_X7_later_34 49 = true := by decide +kernel
def k_X7_later_49 : List mj_O := [(1, 0, 0, 1, [])]
theorem h_X7_later_49 : mj_ch 7 cX7_later 49 k_X7_later_49 50 = true := by decide +kernel
def k_X7_later_50 : List mj_O := [(80, 0, 0, 0, [])]
theorem h_X7_later_50 : mj_ch 7 cX7_later 50 k_X7_later_50 51 = true := by decide +kernel
def k_X7_spareAt_0 : List mj_O := [(4, 0, 0, 0, []), (51, 7, 1, 0, []), (1, 0, 0, 3, []), (60, 0, 0, 0, []), (3, 1, 0, 0, []), (11, 0, 0, 0, []), (5, 2, 0, 0, []), (1, 0, 0, 0, []), (5, 3, 0, 0, [])]
theorem h_X7_spareAt_0 : mj_ch 7 cX7_spareAt 0 k_X7_spareAt_0 11 = true := by decide +kernel
def k_X7_spareAt_11 : List mj_O := [(3, 3, 0, 0, []), (4, 0, 0, 0, []), (51, 7, 1, 0, []), (1, 0, 0, 2, []), (60, 0, 0, 0, []), (39, 36, 0, 0, []), (3, 2, 0, 0, []), (4, 0, 0, 0, []), (3, 3, 0, 0, []), (1, 0, 0, 0, []), (70, 324, 0, 0, []), (11, 0, 0, 0, []), (5, 2, 0, 0, []), (7, 3, 0, 1, []), (42, 11, 0, 0, [])]
theorem h_X7_spareAt_11 : mj_ch 7 cX7_spareAt 11 k_X7_spareAt_11 36 = true := by decide +kernel
def k_X7_spareAt_36 : List mj_O := [(3, 2, 0, 0, []), (80, 0, 0, 0, [])]
theorem h_X7_spareAt_36 : mj_ch 7 cX7_spareAt 36 k_X7_spareAt_36 38 = true := by decide +kernel
def k_X7_morningOf_0 : List mj_O := [(4, 0, 0, 0, []), (1, 0, 0, (-9), []), (52, 7, 12, 0, []), (4, 0, 0, 0, []), (1, 0, 0, 0, []), (52, 7, 13, 0, []), (4, 0, 0, 0, []), (1, 0, 0, 0, []), (52, 7, 14, 0, []), (1, 0, 0, 0, []), (5, 4, 0, 0, [])]
theorem h_X7_morningOf_0 : mj_ch 7 cX7_morningOf 0 k_X7_morningOf_0 19 = true := by decide +kernel
def k_X7_morningOf_19 : List mj_O := [(3, 4, 0, 0, []), (1, 0, 0, 4, []), (39, 85, 0, 0, []), (4, 0, 0, 0, []), (51, 7, 11, 0, []), (3, 4, 0, 0, []), (1, 0, 0, 0, []), (61, 0, 0, 0, []), (4, 0, 0, 0, []), (51, 7, 10, 0, []), (3, 4, 0, 0, []), (4, 0, 0, 0, []), (3, 4, 0, 0, []), (70, 306, 0, 0, []), (30, 75, 0, 0, []), (4, 0, 0, 0, []), (3, 4, 0, 0, []), (1, 0, 0, 1, []), (70, 315, 0, 0, []), (3, 1, 0, 0, []), (37, 75, 0, 0, []), (3, 4, 0, 0, []), (3, 2, 0, 0, []), (36, 75, 0, 0, []), (4, 0, 0, 0, []), (3, 4, 0, 0, []), (1, 0, 0, 2, []), (70, 315, 0, 0, []), (42, 78, 0, 0, [])]
theorem h_X7_morningOf_19 : mj_ch 7 cX7_morningOf 19 k_X7_morningOf_19 75 = true := by decide +kernel
def k_X7_morningOf_75 : List mj_O := [(1, 0, 0, 300, [])]
theorem h_X7_morningOf_75 : mj_ch 7 cX7_morningOf 75 k_X7_morningOf_75 78 = true := by decide +kernel
def k_X7_morningOf_78 : List mj_O := [(61, 0, 0, 0, []), (7, 4, 0, 1, []), (42, 19, 0, 0, [])]
theorem h_X7_morningOf_78 : mj_ch 7 cX7_morningOf 78 k_X7_morningOf_78 85 = true := by decide +kernel
def k_X7_morningOf_85 : List mj_O := [(4, 0, 0, 0, []), (50, 7, 12, 0, []), (33, 313, 0, 0, []), (1, 0, 0, 0, []), (5, 4, 0, 0, []), (1, 0, 0, 1, []), (5, 5, 0, 0, [])]
theorem h_X7_morningOf_85 : mj_ch 7 cX7_morningOf 85 k_X7_morningOf_85 98 = true := by decide +kernel
def k_X7_morningOf_98 : List mj_O := [(3, 5, 0, 0, []), (1, 0, 0, 4, []), (39, 131, 0, 0, []), (4, 0, 0, 0, []), (51, 7, 10, 0, []), (3, 5, 0, 0, []), (60, 0, 0, 0, []), (4, 0, 0, 0, []), (51, 7, 10, 0, []), (3, 4, 0, 0, []), (60, 0, 0, 0, []), (39, 125, 0, 0, []), (3, 5, 0, 0, []), (5, 4, 0, 0, [])]
theorem h_X7_morningOf_98 : mj_ch 7 cX7_morningOf 98 k_X7_morningOf_98 125 = true := by decide +kernel
def k_X7_morningOf_125 : List mj_O := [(7, 5, 0, 1, []), (42, 98, 0, 0, [])]
theorem h_X7_morningOf_125 : mj_ch 7 cX7_morningOf 125 k_X7_morningOf_125 131 = true := by decide +kernel
def k_X7_morningOf_131 : List mj_O := [(4, 0, 0, 0, []), (51, 7, 10, 0, []), (3, 4, 0, 0, []), (60, 0, 0, 0, []), (5, 5, 0, 0, []), (3, 5, 0, 0, []), (1, 0, 0, 300, []), (38, 156, 0, 0, []), (4, 0, 0, 0, []), (1, 0, 0, 300, []), (52, 7, 12, 0, []), (82, 0, 0, 0, [])]
theorem h_X7_morningOf_131 : mj_ch 7 cX7_morningOf 131 k_X7_morningOf_131 156 = true := by decide +kernel
def k_X7_morningOf_156 : List mj_O := [(4, 0, 0, 0, []), (21, 0, 0, 0, []), (50, 7, 15, 0, []), (3, 3, 0, 0, []), (32, 181, 0, 0, []), (4, 0, 0, 0, []), (3, 4, 0, 0, []), (3, 3, 0, 0, []), (3, 5, 0, 0, []), (70, 387, 0, 0, []), (30, 181, 0, 0, []), (1, 0, 0, 1, []), (42, 182, 0, 0, [])]
theorem h_X7_morningOf_156 : mj_ch 7 cX7_morningOf 156 k_X7_morningOf_156 181 = true := by decide +kernel
def k_X7_morningOf_181 : List mj_O := [(1, 0, 0, 0, [])]
theorem h_X7_morningOf_181 : mj_ch 7 cX7_morningOf 181 k_X7_morningOf_181 182 = true := by decide +kernel
def k_X7_morningOf_182 : List mj_O := [(10, 0, 0, 0, []), (52, 7, 15, 0, []), (4, 0, 0, 0, []), (51, 7, 10, 0, []), (3, 4, 0, 0, []), (3, 5, 0, 0, []), (4, 0, 0, 0, []), (3, 4, 0, 0, []), (4, 0, 0, 0, []), (51, 7, 11, 0, []), (3, 4, 0, 0, []), (60, 0, 0, 0, []), (70, 396, 0, 0, []), (10, 0, 0, 0, []), (61, 0, 0, 0, []), (4, 0, 0, 0, []), (3, 4, 0, 0, []), (3, 1, 0, 0, []), (3, 5, 0, 0, []), (70, 387, 0, 0, []), (31, 234, 0, 0, []), (4, 0, 0, 0, []), (21, 0, 0, 0, []), (50, 7, 14, 0, []), (1, 0, 0, 1, []), (10, 0, 0, 0, []), (52, 7, 14, 0, []), (42, 310, 0, 0, [])]
theorem h_X7_morningOf_182 : mj_ch 7 cX7_morningOf 182 k_X7_morningOf_182 234 = true := by decide +kernel
def k_X7_morningOf_234 : List mj_O := [(4, 0, 0, 0, []), (3, 4, 0, 0, []), (4, 0, 0, 0, []), (51, 7, 11, 0, []), (3, 4, 0, 0, []), (60, 0, 0, 0, []), (70, 405, 0, 0, []), (30, 304, 0, 0, []), (4, 0, 0, 0, []), (3, 5, 0, 0, []), (70, 414, 0, 0, []), (4, 0, 0, 0, []), (3, 1, 0, 0, []), (3, 5, 0, 0, []), (70, 342, 0, 0, []), (10, 0, 0, 0, []), (4, 0, 0, 0, []), (3, 1, 0, 0, []), (1, 0, 0, 3, []), (70, 294, 0, 0, []), (10, 0, 0, 0, []), (4, 0, 0, 0, []), (51, 7, 1, 0, []), (1, 0, 0, 4, []), (60, 0, 0, 0, []), (41, 304, 0, 0, []), (4, 0, 0, 0, []), (51, 7, 11, 0, []), (3, 4, 0, 0, []), (22, 0, 0, 0, []), (60, 0, 0, 0, []), (1, 0, 0, 1, []), (10, 0, 0, 0, []), (61, 0, 0, 0, []), (4, 0, 0, 0, []), (21, 0, 0, 0, []), (50, 7, 13, 0, []), (1, 0, 0, 1, []), (10, 0, 0, 0, []), (52, 7, 13, 0, []), (42, 310, 0, 0, [])]
theorem h_X7_morningOf_234 : mj_ch 7 cX7_morningOf 234 k_X7_morningOf_234 304 = true := by decide +kernel
def k_X7_morningOf_304 : List mj_O := [(4, 0, 0, 0, []), (3, 5, 0, 0, []), (52, 7, 12, 0, [])]
theorem h_X7_morningOf_304 : mj_ch 7 cX7_morningOf 304 k_X7_morningOf_304 310 = true := by decide +kernel
def k_X7_morningOf_310 : List mj_O := [(42, 85, 0, 0, [])]
theorem h_X7_morningOf_310 : mj_ch 7 cX7_morningOf 310 k_X7_morningOf_310 313 = true := by decide +kernel
def k_X7_morningOf_313 : List mj_O := [(82, 0, 0, 0, [])]
theorem h_X7_morningOf_313 : mj_ch 7 cX7_morningOf 313 k_X7_morningOf_313 314 = true := by decide +kernel
def k_X7_morning_0 : List mj_O := [(4, 0, 0, 0, []), (3, 1, 0, 0, []), (1, 0, 0, (-9), []), (1, 0, 0, (-9), []), (70, 423, 0, 0, []), (82, 0, 0, 0, [])]
theorem h_X7_morning_0 : mj_ch 7 cX7_morning 0 k_X7_morning_0 10 = true := by decide +kernel
def k_X7_up_0 : List mj_O := [(4, 0, 0, 0, []), (3, 1, 0, 0, []), (70, 255, 0, 0, []), (31, 14, 0, 0, []), (4, 0, 0, 0, []), (1, 0, 0, (-1), []), (70, 123, 0, 0, []), (80, 0, 0, 0, [])]
theorem h_X7_up_0 : mj_ch 7 cX7_up 0 k_X7_up_0 14 = true := by decide +kernel
def k_X7_up_14 : List mj_O := [(4, 0, 0, 0, []), (3, 1, 0, 0, []), (70, 435, 0, 0, []), (4, 0, 0, 0, []), (50, 7, 12, 0, []), (80, 0, 0, 0, [])]
theorem h_X7_up_14 : mj_ch 7 cX7_up 14 k_X7_up_14 24 = true := by decide +kernel
def k_X7_presses_0 : List mj_O := [(4, 0, 0, 0, []), (3, 1, 0, 0, []), (70, 255, 0, 0, []), (31, 14, 0, 0, []), (4, 0, 0, 0, []), (1, 0, 0, (-1), []), (70, 123, 0, 0, []), (80, 0, 0, 0, [])]
theorem h_X7_presses_0 : mj_ch 7 cX7_presses 0 k_X7_presses_0 14 = true := by decide +kernel
def k_X7_presses_14 : List mj_O := [(4, 0, 0, 0, []), (3, 1, 0, 0, []), (70, 435, 0, 0, []), (4, 0, 0, 0, []), (50, 7, 13, 0, []), (80, 0, 0, 0, [])]
theorem h_X7_presses_14 : mj_ch 7 cX7_presses 14 k_X7_presses_14 24 = true := by decide +kernel
def k_X7_slept_0 : List mj_O := [(4, 0, 0, 0, []), (3, 1, 0, 0, []), (70, 255, 0, 0, []), (31, 14, 0, 0, []), (4, 0, 0, 0, []), (1, 0, 0, (-1), []), (70, 123, 0, 0, []), (80, 0, 0, 0, [])]
theorem h_X7_slept_0 : mj_ch 7 cX7_slept 0 k_X7_slept_0 14 = true := by decide +kernel
def k_X7_slept_14 : List mj_O := [(4, 0, 0, 0, []), (3, 1, 0, 0, []), (70, 435, 0, 0, []), (4, 0, 0, 0, []), (50, 7, 14, 0, []), (80, 0, 0, 0, [])]
theorem h_X7_slept_14 : mj_ch 7 cX7_slept 14 k_X7_slept_14 24 = true := by decide +kernel
def k_X7_doneAt_0 : List mj_O := [(1, 0, 0, 0, []), (5, 2, 0, 0, []), (4, 0, 0, 0, []), (1, 0, 0, 0, []), (52, 7, 16, 0, []), (1, 0, 0, 1, []), (5, 3, 0, 0, [])]
theorem h_X7_doneAt_0 : mj_ch 7 cX7_doneAt 0 k_X7_doneAt_0 9 = true := by decide +kernel
def k_X7_doneAt_9 : List mj_O := [(3, 3, 0, 0, []), (1, 0, 0, 1, []), (4, 0, 0, 0, []), (51, 7, 1, 0, []), (1, 0, 0, 2, []), (60, 0, 0, 0, []), (16, 0, 0, 0, []), (39, 118, 0, 0, []), (4, 0, 0, 0, []), (51, 7, 1, 0, []), (1, 0, 0, 3, []), (60, 0, 0, 0, []), (3, 1, 0, 0, []), (11, 0, 0, 0, []), (5, 4, 0, 0, []), (1, 0, 0, 0, []), (5, 5, 0, 0, []), (1, 0, 0, 0, []), (5, 6, 0, 0, [])]
theorem h_X7_doneAt_9 : mj_ch 7 cX7_doneAt 9 k_X7_doneAt_9 37 = true := by decide +kernel
def k_X7_doneAt_37 : List mj_O := [(3, 6, 0, 0, []), (4, 0, 0, 0, []), (51, 7, 1, 0, []), (1, 0, 0, 2, []), (60, 0, 0, 0, []), (39, 90, 0, 0, []), (3, 3, 0, 0, []), (3, 6, 0, 0, []), (17, 0, 0, 0, []), (1, 0, 0, 1, []), (18, 0, 0, 0, []), (31, 60, 0, 0, []), (42, 84, 0, 0, [])]
theorem h_X7_doneAt_37 : mj_ch 7 cX7_doneAt 37 k_X7_doneAt_37 60 = true := by decide +kernel
def k_X7_doneAt_60 : List mj_O := [(3, 4, 0, 0, []), (4, 0, 0, 0, []), (3, 6, 0, 0, []), (1, 0, 0, 0, []), (70, 324, 0, 0, []), (11, 0, 0, 0, []), (5, 4, 0, 0, []), (3, 5, 0, 0, []), (4, 0, 0, 0, []), (3, 6, 0, 0, []), (1, 0, 0, 1, []), (70, 324, 0, 0, []), (10, 0, 0, 0, []), (5, 5, 0, 0, [])]
theorem h_X7_doneAt_60 : mj_ch 7 cX7_doneAt 60 k_X7_doneAt_60 84 = true := by decide +kernel
def k_X7_doneAt_84 : List mj_O := [(7, 6, 0, 1, []), (42, 37, 0, 0, [])]
theorem h_X7_doneAt_84 : mj_ch 7 cX7_doneAt 84 k_X7_doneAt_84 90 = true := by decide +kernel
def k_X7_doneAt_90 : List mj_O := [(3, 4, 0, 0, []), (32, 112, 0, 0, []), (3, 5, 0, 0, []), (3, 2, 0, 0, []), (40, 104, 0, 0, []), (42, 112, 0, 0, [])]
theorem h_X7_doneAt_90 : mj_ch 7 cX7_doneAt 90 k_X7_doneAt_90 104 = true := by decide +kernel
def k_X7_doneAt_104 : List mj_O := [(3, 5, 0, 0, []), (5, 2, 0, 0, []), (4, 0, 0, 0, []), (3, 3, 0, 0, []), (52, 7, 16, 0, [])]
theorem h_X7_doneAt_104 : mj_ch 7 cX7_doneAt 104 k_X7_doneAt_104 112 = true := by decide +kernel
def k_X7_doneAt_112 : List mj_O := [(7, 3, 0, 1, []), (42, 9, 0, 0, [])]
theorem h_X7_doneAt_112 : mj_ch 7 cX7_doneAt 112 k_X7_doneAt_112 118 = true := by decide +kernel
def k_X7_doneAt_118 : List mj_O := [(3, 2, 0, 0, []), (80, 0, 0, 0, [])]
theorem h_X7_doneAt_118 : mj_ch 7 cX7_doneAt 118 k_X7_doneAt_118 120 = true := by decide +kernel
def k_X7_done_0 : List mj_O := [(3, 1, 0, 0, []), (1, 0, 0, 0, []), (1, 0, 0, 300, []), (70, 161, 0, 0, []), (5, 3, 0, 0, []), (3, 3, 0, 0, []), (31, 24, 0, 0, []), (3, 2, 0, 0, []), (1, 0, 0, 2, []), (70, 149, 0, 0, []), (31, 24, 0, 0, []), (1, 0, 0, (-2), []), (5, 3, 0, 0, [])]
theorem h_X7_done_0 : mj_ch 7 cX7_done 0 k_X7_done_0 24 = true := by decide +kernel
def k_X7_done_24 : List mj_O := [(3, 3, 0, 0, []), (30, 34, 0, 0, []), (4, 0, 0, 0, []), (3, 3, 0, 0, []), (70, 123, 0, 0, []), (80, 0, 0, 0, [])]
theorem h_X7_done_24 : mj_ch 7 cX7_done 24 k_X7_done_24 34 = true := by decide +kernel
def k_X7_done_34 : List mj_O := [(4, 0, 0, 0, []), (3, 1, 0, 0, []), (70, 456, 0, 0, []), (5, 4, 0, 0, []), (3, 2, 0, 0, []), (31, 52, 0, 0, []), (4, 0, 0, 0, []), (50, 7, 16, 0, []), (42, 54, 0, 0, [])]
theorem h_X7_done_34 : mj_ch 7 cX7_done 34 k_X7_done_34 52 = true := by decide +kernel
def k_X7_done_52 : List mj_O := [(3, 4, 0, 0, [])]
theorem h_X7_done_52 : mj_ch 7 cX7_done 52 k_X7_done_52 54 = true := by decide +kernel
def k_X7_done_54 : List mj_O := [(80, 0, 0, 0, [])]
theorem h_X7_done_54 : mj_ch 7 cX7_done 54 k_X7_done_54 55 = true := by decide +kernel
def k_X7_valueOf_0 : List mj_O := [(4, 0, 0, 0, []), (3, 1, 0, 0, []), (70, 435, 0, 0, []), (4, 0, 0, 0, []), (4, 0, 0, 0, []), (50, 7, 12, 0, []), (70, 456, 0, 0, []), (4, 0, 0, 0, []), (50, 7, 12, 0, []), (1, 0, 0, 10, []), (13, 0, 0, 0, []), (10, 0, 0, 0, []), (1, 0, 0, 5, []), (4, 0, 0, 0, []), (50, 7, 13, 0, []), (12, 0, 0, 0, []), (11, 0, 0, 0, []), (4, 0, 0, 0, []), (50, 7, 12, 0, []), (4, 0, 0, 0, []), (51, 7, 1, 0, []), (1, 0, 0, 3, []), (60, 0, 0, 0, []), (41, 46, 0, 0, []), (1, 0, 0, 50, []), (42, 47, 0, 0, [])]
theorem h_X7_valueOf_0 : mj_ch 7 cX7_valueOf 0 k_X7_valueOf_0 46 = true := by decide +kernel
def k_X7_valueOf_46 : List mj_O := [(1, 0, 0, 0, [])]
theorem h_X7_valueOf_46 : mj_ch 7 cX7_valueOf 46 k_X7_valueOf_46 47 = true := by decide +kernel
def k_X7_valueOf_47 : List mj_O := [(11, 0, 0, 0, []), (5, 2, 0, 0, []), (4, 0, 0, 0, []), (50, 7, 12, 0, []), (1, 0, 0, 300, []), (37, 63, 0, 0, []), (3, 2, 0, 0, []), (42, 74, 0, 0, [])]
theorem h_X7_valueOf_47 : mj_ch 7 cX7_valueOf 47 k_X7_valueOf_47 63 = true := by decide +kernel
def k_X7_valueOf_63 : List mj_O := [(3, 2, 0, 0, []), (4, 0, 0, 0, []), (3, 1, 0, 0, []), (4, 0, 0, 0, []), (50, 7, 12, 0, []), (70, 342, 0, 0, []), (11, 0, 0, 0, [])]
theorem h_X7_valueOf_63 : mj_ch 7 cX7_valueOf 63 k_X7_valueOf_63 74 = true := by decide +kernel
def k_X7_valueOf_74 : List mj_O := [(80, 0, 0, 0, [])]
theorem h_X7_valueOf_74 : mj_ch 7 cX7_valueOf 74 k_X7_valueOf_74 75 = true := by decide +kernel
def k_X7_value_0 : List mj_O := [(4, 0, 0, 0, []), (3, 1, 0, 0, []), (70, 255, 0, 0, []), (30, 16, 0, 0, []), (4, 0, 0, 0, []), (3, 1, 0, 0, []), (70, 465, 0, 0, []), (42, 21, 0, 0, [])]
theorem h_X7_value_0 : mj_ch 7 cX7_value 0 k_X7_value_0 16 = true := by decide +kernel
def k_X7_value_16 : List mj_O := [(4, 0, 0, 0, []), (1, 0, 0, (-1), []), (70, 474, 0, 0, [])]
theorem h_X7_value_16 : mj_ch 7 cX7_value 16 k_X7_value_16 21 = true := by decide +kernel
def k_X7_value_21 : List mj_O := [(80, 0, 0, 0, [])]
theorem h_X7_value_21 : mj_ch 7 cX7_value 21 k_X7_value_21 22 = true := by decide +kernel
def k_X7_cost_0 : List mj_O := [(3, 1, 0, 0, []), (1, 0, 0, 0, []), (1, 0, 0, 299, []), (70, 161, 0, 0, []), (5, 2, 0, 0, []), (3, 2, 0, 0, []), (30, 21, 0, 0, []), (4, 0, 0, 0, []), (3, 2, 0, 0, []), (70, 474, 0, 0, []), (42, 34, 0, 0, [])]
theorem h_X7_cost_0 : mj_ch 7 cX7_cost 0 k_X7_cost_0 21 = true := by decide +kernel
def k_X7_cost_21 : List mj_O := [(4, 0, 0, 0, []), (3, 1, 0, 0, []), (70, 456, 0, 0, []), (4, 0, 0, 0, []), (3, 1, 0, 0, []), (1, 0, 0, 1, []), (10, 0, 0, 0, []), (70, 456, 0, 0, []), (11, 0, 0, 0, [])]
theorem h_X7_cost_21 : mj_ch 7 cX7_cost 21 k_X7_cost_21 34 = true := by decide +kernel
def k_X7_cost_34 : List mj_O := [(80, 0, 0, 0, [])]
theorem h_X7_cost_34 : mj_ch 7 cX7_cost 34 k_X7_cost_34 35 = true := by decide +kernel
def k_X7_evening_0 : List mj_O := [(4, 0, 0, 0, []), (3, 1, 0, 0, []), (70, 306, 0, 0, []), (31, 14, 0, 0, []), (4, 0, 0, 0, []), (1, 0, 0, (-1), []), (70, 474, 0, 0, []), (80, 0, 0, 0, [])]
theorem h_X7_evening_0 : mj_ch 7 cX7_evening 0 k_X7_evening_0 14 = true := by decide +kernel
def k_X7_evening_14 : List mj_O := [(3, 2, 0, 0, []), (1, 0, 0, 4, []), (70, 149, 0, 0, []), (31, 29, 0, 0, []), (4, 0, 0, 0, []), (1, 0, 0, (-2), []), (70, 474, 0, 0, []), (80, 0, 0, 0, [])]
theorem h_X7_evening_14 : mj_ch 7 cX7_evening 14 k_X7_evening_14 29 = true := by decide +kernel
def k_X7_evening_29 : List mj_O := [(4, 0, 0, 0, []), (70, 483, 0, 0, []), (1, 0, 0, 23, []), (1, 0, 0, 5, []), (3, 1, 0, 0, []), (12, 0, 0, 0, []), (10, 0, 0, 0, []), (3, 2, 0, 0, []), (1, 0, 0, 2, []), (39, 48, 0, 0, []), (1, 0, 0, 2, []), (42, 49, 0, 0, [])]
theorem h_X7_evening_29 : mj_ch 7 cX7_evening 29 k_X7_evening_29 48 = true := by decide +kernel
def k_X7_evening_48 : List mj_O := [(1, 0, 0, 3, [])]
theorem h_X7_evening_48 : mj_ch 7 cX7_evening 48 k_X7_evening_48 49 = true := by decide +kernel
def k_X7_evening_49 : List mj_O := [(10, 0, 0, 0, []), (5, 3, 0, 0, []), (3, 2, 0, 0, []), (1, 0, 0, 2, []), (39, 60, 0, 0, []), (1, 0, 0, 0, []), (42, 61, 0, 0, [])]
theorem h_X7_evening_49 : mj_ch 7 cX7_evening 49 k_X7_evening_49 60 = true := by decide +kernel
def k_X7_evening_60 : List mj_O := [(1, 0, 0, 1, [])]
theorem h_X7_evening_60 : mj_ch 7 cX7_evening 60 k_X7_evening_60 61 = true := by decide +kernel
def k_X7_evening_61 : List mj_O := [(5, 4, 0, 0, []), (3, 4, 0, 0, []), (5, 5, 0, 0, []), (1, 0, 0, 0, []), (5, 6, 0, 0, []), (3, 4, 0, 0, []), (5, 7, 0, 0, [])]
theorem h_X7_evening_61 : mj_ch 7 cX7_evening 61 k_X7_evening_61 74 = true := by decide +kernel
def k_X7_evening_74 : List mj_O := [(3, 7, 0, 0, []), (3, 2, 0, 0, []), (1, 0, 0, 2, []), (39, 87, 0, 0, []), (1, 0, 0, 299, []), (42, 89, 0, 0, [])]
theorem h_X7_evening_74 : mj_ch 7 cX7_evening 74 k_X7_evening_74 87 = true := by decide +kernel
def k_X7_evening_87 : List mj_O := [(1, 0, 0, 20, [])]
theorem h_X7_evening_87 : mj_ch 7 cX7_evening 87 k_X7_evening_87 89 = true := by decide +kernel
def k_X7_evening_89 : List mj_O := [(40, 143, 0, 0, []), (4, 0, 0, 0, []), (51, 7, 1, 0, []), (3, 3, 0, 0, []), (3, 7, 0, 0, []), (61, 0, 0, 0, []), (4, 0, 0, 0, []), (4, 0, 0, 0, []), (3, 1, 0, 0, []), (1, 0, 0, 1, []), (70, 315, 0, 0, []), (70, 465, 0, 0, []), (5, 8, 0, 0, []), (3, 7, 0, 0, []), (3, 4, 0, 0, []), (41, 129, 0, 0, []), (3, 8, 0, 0, []), (3, 6, 0, 0, []), (40, 129, 0, 0, []), (42, 137, 0, 0, [])]
theorem h_X7_evening_89 : mj_ch 7 cX7_evening 89 k_X7_evening_89 129 = true := by decide +kernel
def k_X7_evening_129 : List mj_O := [(3, 7, 0, 0, []), (5, 5, 0, 0, []), (3, 8, 0, 0, []), (5, 6, 0, 0, [])]
theorem h_X7_evening_129 : mj_ch 7 cX7_evening 129 k_X7_evening_129 137 = true := by decide +kernel
def k_X7_evening_137 : List mj_O := [(7, 7, 0, 1, []), (42, 74, 0, 0, [])]
theorem h_X7_evening_137 : mj_ch 7 cX7_evening 137 k_X7_evening_137 143 = true := by decide +kernel
def k_X7_evening_143 : List mj_O := [(4, 0, 0, 0, []), (70, 492, 0, 0, []), (3, 2, 0, 0, []), (1, 0, 0, 2, []), (14, 0, 0, 0, []), (31, 158, 0, 0, []), (3, 5, 0, 0, []), (42, 160, 0, 0, [])]
theorem h_X7_evening_143 : mj_ch 7 cX7_evening 143 k_X7_evening_143 158 = true := by decide +kernel
def k_X7_evening_158 : List mj_O := [(3, 6, 0, 0, [])]
theorem h_X7_evening_158 : mj_ch 7 cX7_evening 158 k_X7_evening_158 160 = true := by decide +kernel
def k_X7_evening_160 : List mj_O := [(80, 0, 0, 0, [])]
theorem h_X7_evening_160 : mj_ch 7 cX7_evening 160 k_X7_evening_160 161 = true := by decide +kernel
def k_X7_often_0 : List mj_O := [(4, 0, 0, 0, []), (3, 1, 0, 0, []), (70, 306, 0, 0, []), (30, 18, 0, 0, []), (3, 2, 0, 0, []), (1, 0, 0, 0, []), (1, 0, 0, 9, []), (70, 161, 0, 0, []), (42, 19, 0, 0, [])]
theorem h_X7_often_0 : mj_ch 7 cX7_often 0 k_X7_often_0 18 = true := by decide +kernel
def k_X7_often_18 : List mj_O := [(1, 0, 0, (-1), [])]
theorem h_X7_often_18 : mj_ch 7 cX7_often 18 k_X7_often_18 19 = true := by decide +kernel
def k_X7_often_19 : List mj_O := [(5, 3, 0, 0, []), (3, 3, 0, 0, []), (30, 30, 0, 0, []), (4, 0, 0, 0, []), (3, 3, 0, 0, []), (70, 123, 0, 0, []), (80, 0, 0, 0, [])]
theorem h_X7_often_19 : mj_ch 7 cX7_often 19 k_X7_often_19 30 = true := by decide +kernel
def k_X7_often_30 : List mj_O := [(4, 0, 0, 0, []), (70, 483, 0, 0, []), (1, 0, 0, 0, []), (5, 4, 0, 0, []), (1, 0, 0, 0, []), (5, 5, 0, 0, [])]
theorem h_X7_often_30 : mj_ch 7 cX7_often 30 k_X7_often_30 40 = true := by decide +kernel
def k_X7_often_40 : List mj_O := [(3, 5, 0, 0, []), (1, 0, 0, 300, []), (39, 97, 0, 0, []), (4, 0, 0, 0, []), (51, 7, 1, 0, []), (1, 0, 0, 23, []), (1, 0, 0, 5, []), (3, 1, 0, 0, []), (12, 0, 0, 0, []), (10, 0, 0, 0, []), (1, 0, 0, 2, []), (10, 0, 0, 0, []), (3, 5, 0, 0, []), (61, 0, 0, 0, []), (4, 0, 0, 0, []), (4, 0, 0, 0, []), (3, 1, 0, 0, []), (1, 0, 0, 1, []), (70, 315, 0, 0, []), (70, 435, 0, 0, []), (3, 4, 0, 0, []), (4, 0, 0, 0, []), (50, 7, 13, 0, []), (3, 2, 0, 0, []), (38, 87, 0, 0, []), (1, 0, 0, 1, []), (42, 88, 0, 0, [])]
theorem h_X7_often_40 : mj_ch 7 cX7_often 40 k_X7_often_40 87 = true := by decide +kernel
def k_X7_often_87 : List mj_O := [(1, 0, 0, 0, [])]
theorem h_X7_often_87 : mj_ch 7 cX7_often 87 k_X7_often_87 88 = true := by decide +kernel
def k_X7_often_88 : List mj_O := [(10, 0, 0, 0, []), (5, 4, 0, 0, []), (7, 5, 0, 1, []), (42, 40, 0, 0, [])]
theorem h_X7_often_88 : mj_ch 7 cX7_often 88 k_X7_often_88 97 = true := by decide +kernel
def k_X7_often_97 : List mj_O := [(4, 0, 0, 0, []), (70, 492, 0, 0, []), (3, 4, 0, 0, []), (80, 0, 0, 0, [])]
theorem h_X7_often_97 : mj_ch 7 cX7_often 97 k_X7_often_97 104 = true := by decide +kernel
def k_X7_hearsBut_0 : List mj_O := [(4, 0, 0, 0, []), (1, 0, 0, 0, []), (52, 7, 15, 0, []), (1, 0, 0, 0, []), (5, 3, 0, 0, [])]
theorem h_X7_hearsBut_0 : mj_ch 7 cX7_hearsBut 0 k_X7_hearsBut_0 7 = true := by decide +kernel
def k_X7_hearsBut_7 : List mj_O := [(3, 3, 0, 0, []), (4, 0, 0, 0, []), (51, 7, 1, 0, []), (1, 0, 0, 0, []), (60, 0, 0, 0, []), (39, 35, 0, 0, []), (3, 3, 0, 0, []), (3, 1, 0, 0, []), (36, 29, 0, 0, []), (4, 0, 0, 0, []), (3, 3, 0, 0, []), (3, 2, 0, 0, []), (3, 1, 0, 0, []), (70, 423, 0, 0, [])]
theorem h_X7_hearsBut_7 : mj_ch 7 cX7_hearsBut 7 k_X7_hearsBut_7 29 = true := by decide +kernel
def k_X7_hearsBut_29 : List mj_O := [(7, 3, 0, 1, []), (42, 7, 0, 0, [])]
theorem h_X7_hearsBut_29 : mj_ch 7 cX7_hearsBut 29 k_X7_hearsBut_29 35 = true := by decide +kernel
def k_X7_hearsBut_35 : List mj_O := [(4, 0, 0, 0, []), (50, 7, 15, 0, []), (80, 0, 0, 0, [])]
theorem h_X7_hearsBut_35 : mj_ch 7 cX7_hearsBut 35 k_X7_hearsBut_35 40 = true := by decide +kernel
def k_X7_hears_0 : List mj_O := [(4, 0, 0, 0, []), (3, 1, 0, 0, []), (70, 255, 0, 0, []), (30, 18, 0, 0, []), (4, 0, 0, 0, []), (3, 1, 0, 0, []), (1, 0, 0, (-9), []), (70, 501, 0, 0, []), (42, 23, 0, 0, [])]
theorem h_X7_hears_0 : mj_ch 7 cX7_hears 0 k_X7_hears_0 18 = true := by decide +kernel
def k_X7_hears_18 : List mj_O := [(4, 0, 0, 0, []), (1, 0, 0, (-1), []), (70, 123, 0, 0, [])]
theorem h_X7_hears_18 : mj_ch 7 cX7_hears 18 k_X7_hears_18 23 = true := by decide +kernel
def k_X7_hears_23 : List mj_O := [(80, 0, 0, 0, [])]
theorem h_X7_hears_23 : mj_ch 7 cX7_hears 23 k_X7_hears_23 24 = true := by decide +kernel
def k_X7_silent_0 : List mj_O := [(4, 0, 0, 0, []), (3, 1, 0, 0, []), (70, 255, 0, 0, []), (31, 14, 0, 0, []), (4, 0, 0, 0, []), (1, 0, 0, (-1), []), (70, 123, 0, 0, []), (80, 0, 0, 0, [])]
theorem h_X7_silent_0 : mj_ch 7 cX7_silent 0 k_X7_silent_0 14 = true := by decide +kernel
def k_X7_silent_14 : List mj_O := [(4, 0, 0, 0, []), (3, 1, 0, 0, []), (1, 0, 0, (-9), []), (70, 501, 0, 0, []), (5, 2, 0, 0, []), (1, 0, 0, (-9), []), (5, 3, 0, 0, []), (1, 0, 0, 0, []), (5, 4, 0, 0, [])]
theorem h_X7_silent_14 : mj_ch 7 cX7_silent 14 k_X7_silent_14 28 = true := by decide +kernel
def k_X7_silent_28 : List mj_O := [(3, 4, 0, 0, []), (4, 0, 0, 0, []), (51, 7, 1, 0, []), (1, 0, 0, 1, []), (60, 0, 0, 0, []), (39, 81, 0, 0, []), (4, 0, 0, 0, []), (3, 4, 0, 0, []), (1, 0, 0, 1, []), (70, 315, 0, 0, []), (3, 1, 0, 0, []), (36, 75, 0, 0, []), (4, 0, 0, 0, []), (3, 1, 0, 0, []), (3, 4, 0, 0, []), (70, 501, 0, 0, []), (3, 2, 0, 0, []), (38, 64, 0, 0, []), (42, 75, 0, 0, [])]
theorem h_X7_silent_28 : mj_ch 7 cX7_silent 28 k_X7_silent_28 64 = true := by decide +kernel
def k_X7_silent_64 : List mj_O := [(3, 4, 0, 0, []), (5, 3, 0, 0, []), (4, 0, 0, 0, []), (3, 1, 0, 0, []), (3, 4, 0, 0, []), (70, 501, 0, 0, []), (5, 2, 0, 0, [])]
theorem h_X7_silent_64 : mj_ch 7 cX7_silent 64 k_X7_silent_64 75 = true := by decide +kernel
def k_X7_silent_75 : List mj_O := [(7, 4, 0, 1, []), (42, 28, 0, 0, [])]
theorem h_X7_silent_75 : mj_ch 7 cX7_silent 75 k_X7_silent_75 81 = true := by decide +kernel
def k_X7_silent_81 : List mj_O := [(3, 3, 0, 0, []), (80, 0, 0, 0, [])]
theorem h_X7_silent_81 : mj_ch 7 cX7_silent 81 k_X7_silent_81 83 = true := by decide +kernel
def k_X7_bet_0 : List mj_O := [(4, 0, 0, 0, []), (3, 1, 0, 0, []), (70, 255, 0, 0, []), (31, 14, 0, 0, []), (4, 0, 0, 0, []), (1, 0, 0, (-1), []), (70, 123, 0, 0, []), (80, 0, 0, 0, [])]
theorem h_X7_bet_0 : mj_ch 7 cX7_bet 0 k_X7_bet_0 14 = true := by decide +kernel
def k_X7_bet_14 : List mj_O := [(4, 0, 0, 0, []), (70, 483, 0, 0, []), (1, 0, 0, (-9), []), (5, 2, 0, 0, []), (1, 0, 0, 0, []), (5, 3, 0, 0, [])]
theorem h_X7_bet_14 : mj_ch 7 cX7_bet 14 k_X7_bet_14 23 = true := by decide +kernel
def k_X7_bet_23 : List mj_O := [(3, 3, 0, 0, []), (1, 0, 0, 100, []), (39, 65, 0, 0, []), (3, 2, 0, 0, []), (33, 65, 0, 0, []), (4, 0, 0, 0, []), (51, 7, 1, 0, []), (1, 0, 0, 4, []), (3, 3, 0, 0, []), (61, 0, 0, 0, []), (4, 0, 0, 0, []), (3, 1, 0, 0, []), (70, 435, 0, 0, []), (4, 0, 0, 0, []), (50, 7, 13, 0, []), (31, 56, 0, 0, []), (3, 3, 0, 0, []), (42, 58, 0, 0, [])]
theorem h_X7_bet_23 : mj_ch 7 cX7_bet 23 k_X7_bet_23 56 = true := by decide +kernel
def k_X7_bet_56 : List mj_O := [(1, 0, 0, (-9), [])]
theorem h_X7_bet_56 : mj_ch 7 cX7_bet 56 k_X7_bet_56 58 = true := by decide +kernel
def k_X7_bet_58 : List mj_O := [(5, 2, 0, 0, []), (7, 3, 0, 1, []), (42, 23, 0, 0, [])]
theorem h_X7_bet_58 : mj_ch 7 cX7_bet 58 k_X7_bet_58 65 = true := by decide +kernel
def k_X7_bet_65 : List mj_O := [(4, 0, 0, 0, []), (70, 492, 0, 0, []), (3, 2, 0, 0, []), (80, 0, 0, 0, [])]
theorem h_X7_bet_65 : mj_ch 7 cX7_bet 65 k_X7_bet_65 71 = true := by decide +kernel
def k_X7_leans_0 : List mj_O := [(4, 0, 0, 0, []), (3, 1, 0, 0, []), (70, 255, 0, 0, []), (30, 19, 0, 0, []), (3, 2, 0, 0, []), (1, 0, 0, 0, []), (1, 0, 0, 300, []), (70, 161, 0, 0, []), (42, 20, 0, 0, [])]
theorem h_X7_leans_0 : mj_ch 7 cX7_leans 0 k_X7_leans_0 19 = true := by decide +kernel
def k_X7_leans_19 : List mj_O := [(1, 0, 0, (-1), [])]
theorem h_X7_leans_19 : mj_ch 7 cX7_leans 19 k_X7_leans_19 20 = true := by decide +kernel
def k_X7_leans_20 : List mj_O := [(5, 3, 0, 0, []), (3, 3, 0, 0, []), (30, 31, 0, 0, []), (4, 0, 0, 0, []), (3, 3, 0, 0, []), (70, 123, 0, 0, []), (80, 0, 0, 0, [])]
theorem h_X7_leans_20 : mj_ch 7 cX7_leans 20 k_X7_leans_20 31 = true := by decide +kernel
def k_X7_leans_31 : List mj_O := [(4, 0, 0, 0, []), (70, 483, 0, 0, []), (1, 0, 0, 0, []), (5, 4, 0, 0, []), (1, 0, 0, 0, []), (5, 5, 0, 0, [])]
theorem h_X7_leans_31 : mj_ch 7 cX7_leans 31 k_X7_leans_31 41 = true := by decide +kernel
def k_X7_leans_41 : List mj_O := [(3, 5, 0, 0, []), (1, 0, 0, 30, []), (40, 95, 0, 0, []), (4, 0, 0, 0, []), (51, 7, 1, 0, []), (1, 0, 0, 7, []), (1, 0, 0, 4, []), (3, 1, 0, 0, []), (12, 0, 0, 0, []), (10, 0, 0, 0, []), (1, 0, 0, 3, []), (10, 0, 0, 0, []), (3, 5, 0, 0, []), (61, 0, 0, 0, []), (4, 0, 0, 0, []), (3, 1, 0, 0, []), (70, 435, 0, 0, []), (3, 4, 0, 0, []), (4, 0, 0, 0, []), (50, 7, 12, 0, []), (3, 2, 0, 0, []), (37, 85, 0, 0, []), (1, 0, 0, 1, []), (3, 5, 0, 0, []), (16, 0, 0, 0, []), (42, 86, 0, 0, [])]
theorem h_X7_leans_41 : mj_ch 7 cX7_leans 41 k_X7_leans_41 85 = true := by decide +kernel
def k_X7_leans_85 : List mj_O := [(1, 0, 0, 0, [])]
theorem h_X7_leans_85 : mj_ch 7 cX7_leans 85 k_X7_leans_85 86 = true := by decide +kernel
def k_X7_leans_86 : List mj_O := [(19, 0, 0, 0, []), (5, 4, 0, 0, []), (7, 5, 0, 1, []), (42, 41, 0, 0, [])]
theorem h_X7_leans_86 : mj_ch 7 cX7_leans 86 k_X7_leans_86 95 = true := by decide +kernel
def k_X7_leans_95 : List mj_O := [(4, 0, 0, 0, []), (70, 492, 0, 0, []), (3, 4, 0, 0, []), (80, 0, 0, 0, [])]
theorem h_X7_leans_95 : mj_ch 7 cX7_leans 95 k_X7_leans_95 102 = true := by decide +kernel
def k_X7_back_0 : List mj_O := [(4, 0, 0, 0, []), (3, 1, 0, 0, []), (70, 306, 0, 0, []), (30, 19, 0, 0, []), (3, 2, 0, 0, []), (1, 0, 0, 0, []), (1, 0, 0, 300, []), (70, 161, 0, 0, []), (42, 20, 0, 0, [])]
theorem h_X7_back_0 : mj_ch 7 cX7_back 0 k_X7_back_0 19 = true := by decide +kernel
def k_X7_back_19 : List mj_O := [(1, 0, 0, (-1), [])]
theorem h_X7_back_19 : mj_ch 7 cX7_back 19 k_X7_back_19 20 = true := by decide +kernel
def k_X7_back_20 : List mj_O := [(5, 3, 0, 0, []), (3, 3, 0, 0, []), (30, 31, 0, 0, []), (4, 0, 0, 0, []), (3, 3, 0, 0, []), (70, 123, 0, 0, []), (80, 0, 0, 0, [])]
theorem h_X7_back_20 : mj_ch 7 cX7_back 20 k_X7_back_20 31 = true := by decide +kernel
def k_X7_back_31 : List mj_O := [(4, 0, 0, 0, []), (70, 483, 0, 0, []), (1, 0, 0, (-9), []), (5, 4, 0, 0, []), (4, 0, 0, 0, []), (3, 1, 0, 0, []), (1, 0, 0, 2, []), (70, 315, 0, 0, []), (5, 5, 0, 0, []), (1, 0, 0, 0, []), (5, 6, 0, 0, [])]
theorem h_X7_back_31 : mj_ch 7 cX7_back 31 k_X7_back_31 50 = true := by decide +kernel
def k_X7_back_50 : List mj_O := [(3, 6, 0, 0, []), (1, 0, 0, 60, []), (40, 120, 0, 0, []), (3, 6, 0, 0, []), (3, 5, 0, 0, []), (40, 120, 0, 0, []), (3, 4, 0, 0, []), (33, 120, 0, 0, []), (4, 0, 0, 0, []), (51, 7, 1, 0, []), (1, 0, 0, 23, []), (1, 0, 0, 5, []), (3, 1, 0, 0, []), (12, 0, 0, 0, []), (10, 0, 0, 0, []), (1, 0, 0, 2, []), (10, 0, 0, 0, []), (3, 5, 0, 0, []), (3, 6, 0, 0, []), (11, 0, 0, 0, []), (61, 0, 0, 0, []), (4, 0, 0, 0, []), (4, 0, 0, 0, []), (3, 1, 0, 0, []), (1, 0, 0, 1, []), (70, 315, 0, 0, []), (70, 435, 0, 0, []), (4, 0, 0, 0, []), (50, 7, 12, 0, []), (3, 2, 0, 0, []), (37, 110, 0, 0, []), (3, 6, 0, 0, []), (42, 112, 0, 0, [])]
theorem h_X7_back_50 : mj_ch 7 cX7_back 50 k_X7_back_50 110 = true := by decide +kernel
def k_X7_back_110 : List mj_O := [(1, 0, 0, (-9), [])]
theorem h_X7_back_110 : mj_ch 7 cX7_back 110 k_X7_back_110 112 = true := by decide +kernel
def k_X7_back_112 : List mj_O := [(5, 4, 0, 0, []), (7, 6, 0, 1, []), (42, 50, 0, 0, [])]
theorem h_X7_back_112 : mj_ch 7 cX7_back 112 k_X7_back_112 120 = true := by decide +kernel
def k_X7_back_120 : List mj_O := [(4, 0, 0, 0, []), (70, 492, 0, 0, []), (3, 4, 0, 0, []), (80, 0, 0, 0, [])]
theorem h_X7_back_120 : mj_ch 7 cX7_back 120 k_X7_back_120 127 = true := by decide +kernel
def k_X7_moment_0 : List mj_O := [(4, 0, 0, 0, []), (3, 1, 0, 0, []), (70, 255, 0, 0, []), (31, 12, 0, 0, []), (1, 0, 0, (-1), []), (42, 47, 0, 0, [])]
theorem h_X7_moment_0 : mj_ch 7 cX7_moment 0 k_X7_moment_0 12 = true := by decide +kernel
def k_X7_moment_12 : List mj_O := [(3, 2, 0, 0, []), (32, 21, 0, 0, []), (3, 3, 0, 0, []), (1, 0, 0, 1, []), (39, 26, 0, 0, [])]
theorem h_X7_moment_12 : mj_ch 7 cX7_moment 12 k_X7_moment_12 21 = true := by decide +kernel
def k_X7_moment_21 : List mj_O := [(1, 0, 0, (-4), []), (42, 47, 0, 0, [])]
theorem h_X7_moment_21 : mj_ch 7 cX7_moment 21 k_X7_moment_21 26 = true := by decide +kernel
def k_X7_moment_26 : List mj_O := [(3, 3, 0, 0, []), (1, 0, 0, 30, []), (40, 41, 0, 0, []), (3, 2, 0, 0, []), (1, 0, 0, 300, []), (3, 3, 0, 0, []), (11, 0, 0, 0, []), (41, 46, 0, 0, [])]
theorem h_X7_moment_26 : mj_ch 7 cX7_moment 26 k_X7_moment_26 41 = true := by decide +kernel
def k_X7_moment_41 : List mj_O := [(1, 0, 0, (-6), []), (42, 47, 0, 0, [])]
theorem h_X7_moment_41 : mj_ch 7 cX7_moment 41 k_X7_moment_41 46 = true := by decide +kernel
def k_X7_moment_46 : List mj_O := [(1, 0, 0, 0, [])]
theorem h_X7_moment_46 : mj_ch 7 cX7_moment 46 k_X7_moment_46 47 = true := by decide +kernel
def k_X7_moment_47 : List mj_O := [(5, 4, 0, 0, []), (3, 4, 0, 0, []), (30, 61, 0, 0, []), (4, 0, 0, 0, []), (3, 4, 0, 0, []), (70, 123, 0, 0, []), (80, 0, 0, 0, [])]
theorem h_X7_moment_47 : mj_ch 7 cX7_moment 47 k_X7_moment_47 61 = true := by decide +kernel
def k_X7_moment_61 : List mj_O := [(3, 2, 0, 0, []), (5, 5, 0, 0, []), (3, 2, 0, 0, []), (1, 0, 0, 1, []), (10, 0, 0, 0, []), (5, 6, 0, 0, [])]
theorem h_X7_moment_61 : mj_ch 7 cX7_moment 61 k_X7_moment_61 69 = true := by decide +kernel
def k_X7_moment_69 : List mj_O := [(3, 6, 0, 0, []), (3, 2, 0, 0, []), (3, 3, 0, 0, []), (10, 0, 0, 0, []), (39, 104, 0, 0, []), (4, 0, 0, 0, []), (3, 1, 0, 0, []), (3, 6, 0, 0, []), (70, 342, 0, 0, []), (4, 0, 0, 0, []), (3, 1, 0, 0, []), (3, 5, 0, 0, []), (70, 342, 0, 0, []), (39, 98, 0, 0, []), (3, 6, 0, 0, []), (5, 5, 0, 0, [])]
theorem h_X7_moment_69 : mj_ch 7 cX7_moment 69 k_X7_moment_69 98 = true := by decide +kernel
def k_X7_moment_98 : List mj_O := [(7, 6, 0, 1, []), (42, 69, 0, 0, [])]
theorem h_X7_moment_98 : mj_ch 7 cX7_moment 98 k_X7_moment_98 104 = true := by decide +kernel
def k_X7_moment_104 : List mj_O := [(3, 5, 0, 0, []), (80, 0, 0, 0, [])]
theorem h_X7_moment_104 : mj_ch 7 cX7_moment 104 k_X7_moment_104 107 = true := by decide +kernel
def k_X7_tires_0 : List mj_O := [(4, 0, 0, 0, []), (51, 7, 1, 0, []), (1, 0, 0, 5, []), (60, 0, 0, 0, []), (4, 0, 0, 0, []), (50, 7, 13, 0, []), (1, 0, 0, 1, []), (41, 18, 0, 0, []), (1, 0, 0, 1, []), (42, 30, 0, 0, [])]
theorem h_X7_tires_0 : mj_ch 7 cX7_tires 0 k_X7_tires_0 18 = true := by decide +kernel
def k_X7_tires_18 : List mj_O := [(4, 0, 0, 0, []), (50, 7, 13, 0, []), (31, 29, 0, 0, []), (1, 0, 0, (-1), []), (42, 30, 0, 0, [])]
theorem h_X7_tires_18 : mj_ch 7 cX7_tires 18 k_X7_tires_18 29 = true := by decide +kernel
def k_X7_tires_29 : List mj_O := [(1, 0, 0, 0, [])]
theorem h_X7_tires_29 : mj_ch 7 cX7_tires 29 k_X7_tires_29 30 = true := by decide +kernel
def k_X7_tires_30 : List mj_O := [(10, 0, 0, 0, []), (5, 1, 0, 0, []), (4, 0, 0, 0, []), (51, 7, 1, 0, []), (1, 0, 0, 5, []), (3, 1, 0, 0, []), (33, 45, 0, 0, []), (1, 0, 0, 0, []), (42, 57, 0, 0, [])]
theorem h_X7_tires_30 : mj_ch 7 cX7_tires 30 k_X7_tires_30 45 = true := by decide +kernel
def k_X7_tires_45 : List mj_O := [(3, 1, 0, 0, []), (1, 0, 0, 9, []), (41, 56, 0, 0, []), (1, 0, 0, 9, []), (42, 57, 0, 0, [])]
theorem h_X7_tires_45 : mj_ch 7 cX7_tires 45 k_X7_tires_45 56 = true := by decide +kernel
def k_X7_tires_56 : List mj_O := [(3, 1, 0, 0, [])]
theorem h_X7_tires_56 : mj_ch 7 cX7_tires 56 k_X7_tires_56 57 = true := by decide +kernel
def k_X7_tires_57 : List mj_O := [(61, 0, 0, 0, []), (82, 0, 0, 0, [])]
theorem h_X7_tires_57 : mj_ch 7 cX7_tires 57 k_X7_tires_57 59 = true := by decide +kernel
def k_X7_night_0 : List mj_O := [(4, 0, 0, 0, []), (51, 7, 1, 0, []), (1, 0, 0, 0, []), (60, 0, 0, 0, []), (31, 16, 0, 0, []), (4, 0, 0, 0, []), (1, 0, 0, (-3), []), (70, 123, 0, 0, []), (80, 0, 0, 0, [])]
theorem h_X7_night_0 : mj_ch 7 cX7_night 0 k_X7_night_0 16 = true := by decide +kernel
def k_X7_night_16 : List mj_O := [(4, 0, 0, 0, []), (1, 0, 0, 0, []), (70, 435, 0, 0, []), (4, 0, 0, 0, []), (70, 510, 0, 0, []), (4, 0, 0, 0, []), (51, 7, 1, 0, []), (1, 0, 0, 6, []), (4, 0, 0, 0, []), (51, 7, 1, 0, []), (1, 0, 0, 6, []), (60, 0, 0, 0, []), (1, 0, 0, 1, []), (10, 0, 0, 0, []), (1, 0, 0, 7, []), (14, 0, 0, 0, []), (61, 0, 0, 0, []), (4, 0, 0, 0, []), (51, 7, 1, 0, []), (1, 0, 0, 6, []), (60, 0, 0, 0, []), (80, 0, 0, 0, [])]
theorem h_X7_night_16 : mj_ch 7 cX7_night 16 k_X7_night_16 52 = true := by decide +kernel
def k_X7_week_0 : List mj_O := [(4, 0, 0, 0, []), (3, 1, 0, 0, []), (70, 255, 0, 0, []), (30, 25, 0, 0, []), (3, 2, 0, 0, []), (4, 0, 0, 0, []), (51, 7, 1, 0, []), (1, 0, 0, 6, []), (60, 0, 0, 0, []), (38, 25, 0, 0, []), (3, 2, 0, 0, []), (1, 0, 0, 7, []), (38, 29, 0, 0, [])]
theorem h_X7_week_0 : mj_ch 7 cX7_week 0 k_X7_week_0 25 = true := by decide +kernel
def k_X7_week_25 : List mj_O := [(1, 0, 0, (-1), []), (42, 43, 0, 0, [])]
theorem h_X7_week_25 : mj_ch 7 cX7_week 25 k_X7_week_25 29 = true := by decide +kernel
def k_X7_week_29 : List mj_O := [(3, 3, 0, 0, []), (1, 0, 0, 3, []), (70, 149, 0, 0, []), (30, 41, 0, 0, []), (1, 0, 0, 0, []), (42, 43, 0, 0, [])]
theorem h_X7_week_29 : mj_ch 7 cX7_week 29 k_X7_week_29 41 = true := by decide +kernel
def k_X7_week_41 : List mj_O := [(1, 0, 0, (-2), [])]
theorem h_X7_week_41 : mj_ch 7 cX7_week 41 k_X7_week_41 43 = true := by decide +kernel
def k_X7_week_43 : List mj_O := [(5, 4, 0, 0, []), (3, 4, 0, 0, []), (30, 57, 0, 0, []), (4, 0, 0, 0, []), (3, 4, 0, 0, []), (70, 123, 0, 0, []), (80, 0, 0, 0, [])]
theorem h_X7_week_43 : mj_ch 7 cX7_week 43 k_X7_week_43 57 = true := by decide +kernel
def k_X7_week_57 : List mj_O := [(4, 0, 0, 0, []), (70, 483, 0, 0, []), (1, 0, 0, 0, []), (5, 5, 0, 0, []), (1, 0, 0, 0, []), (5, 6, 0, 0, []), (4, 0, 0, 0, []), (51, 7, 1, 0, []), (1, 0, 0, 6, []), (60, 0, 0, 0, []), (5, 7, 0, 0, [])]
theorem h_X7_week_57 : mj_ch 7 cX7_week 57 k_X7_week_57 76 = true := by decide +kernel
def k_X7_week_76 : List mj_O := [(3, 7, 0, 0, []), (3, 2, 0, 0, []), (40, 121, 0, 0, []), (4, 0, 0, 0, []), (51, 7, 1, 0, []), (1, 0, 0, 6, []), (3, 7, 0, 0, []), (61, 0, 0, 0, []), (4, 0, 0, 0, []), (3, 1, 0, 0, []), (70, 435, 0, 0, []), (4, 0, 0, 0, []), (50, 7, 13, 0, []), (5, 6, 0, 0, []), (3, 5, 0, 0, []), (4, 0, 0, 0, []), (50, 7, 13, 0, []), (10, 0, 0, 0, []), (5, 5, 0, 0, []), (4, 0, 0, 0, []), (70, 510, 0, 0, []), (7, 7, 0, 1, []), (42, 76, 0, 0, [])]
theorem h_X7_week_76 : mj_ch 7 cX7_week 76 k_X7_week_76 121 = true := by decide +kernel
def k_X7_week_121 : List mj_O := [(4, 0, 0, 0, []), (51, 7, 1, 0, []), (1, 0, 0, 5, []), (60, 0, 0, 0, []), (5, 7, 0, 0, []), (4, 0, 0, 0, []), (70, 492, 0, 0, []), (3, 3, 0, 0, []), (31, 142, 0, 0, []), (3, 6, 0, 0, []), (42, 154, 0, 0, [])]
theorem h_X7_week_121 : mj_ch 7 cX7_week 121 k_X7_week_121 142 = true := by decide +kernel
def k_X7_week_142 : List mj_O := [(3, 3, 0, 0, []), (1, 0, 0, 1, []), (37, 152, 0, 0, []), (3, 5, 0, 0, []), (42, 154, 0, 0, [])]
theorem h_X7_week_142 : mj_ch 7 cX7_week 142 k_X7_week_142 152 = true := by decide +kernel
def k_X7_week_152 : List mj_O := [(3, 7, 0, 0, [])]
theorem h_X7_week_152 : mj_ch 7 cX7_week 152 k_X7_week_152 154 = true := by decide +kernel
def k_X7_week_154 : List mj_O := [(80, 0, 0, 0, [])]
theorem h_X7_week_154 : mj_ch 7 cX7_week 154 k_X7_week_154 155 = true := by decide +kernel
def k_X7_row_0 : List mj_O := [(3, 1, 0, 0, []), (1, 0, 0, 0, []), (1, 0, 0, 300, []), (70, 161, 0, 0, []), (5, 2, 0, 0, []), (3, 2, 0, 0, []), (31, 25, 0, 0, []), (4, 0, 0, 0, []), (50, 7, 18, 0, []), (1, 0, 0, 8, []), (37, 25, 0, 0, []), (1, 0, 0, (-6), []), (5, 2, 0, 0, [])]
theorem h_X7_row_0 : mj_ch 7 cX7_row 0 k_X7_row_0 25 = true := by decide +kernel
def k_X7_row_25 : List mj_O := [(3, 2, 0, 0, []), (30, 35, 0, 0, []), (4, 0, 0, 0, []), (3, 2, 0, 0, []), (70, 123, 0, 0, []), (80, 0, 0, 0, [])]
theorem h_X7_row_25 : mj_ch 7 cX7_row 25 k_X7_row_25 35 = true := by decide +kernel
def k_X7_row_35 : List mj_O := [(4, 0, 0, 0, []), (51, 7, 17, 0, []), (4, 0, 0, 0, []), (50, 7, 18, 0, []), (3, 1, 0, 0, []), (61, 0, 0, 0, []), (4, 0, 0, 0, []), (21, 0, 0, 0, []), (50, 7, 18, 0, []), (1, 0, 0, 1, []), (10, 0, 0, 0, []), (52, 7, 18, 0, []), (4, 0, 0, 0, []), (50, 7, 18, 0, []), (80, 0, 0, 0, [])]
theorem h_X7_row_35 : mj_ch 7 cX7_row 35 k_X7_row_35 60 = true := by decide +kernel
def k_X7_wrongDay_0 : List mj_O := [(4, 0, 0, 0, []), (51, 7, 1, 0, []), (1, 0, 0, 5, []), (60, 0, 0, 0, []), (5, 2, 0, 0, []), (4, 0, 0, 0, []), (51, 7, 1, 0, []), (1, 0, 0, 6, []), (60, 0, 0, 0, []), (5, 3, 0, 0, []), (1, 0, 0, (-9), []), (5, 4, 0, 0, []), (1, 0, 0, 0, []), (5, 5, 0, 0, [])]
theorem h_X7_wrongDay_0 : mj_ch 7 cX7_wrongDay 0 k_X7_wrongDay_0 22 = true := by decide +kernel
def k_X7_wrongDay_22 : List mj_O := [(3, 5, 0, 0, []), (4, 0, 0, 0, []), (50, 7, 18, 0, []), (39, 93, 0, 0, []), (3, 4, 0, 0, []), (33, 93, 0, 0, []), (4, 0, 0, 0, []), (3, 1, 0, 0, []), (70, 435, 0, 0, []), (4, 0, 0, 0, []), (50, 7, 12, 0, []), (4, 0, 0, 0, []), (51, 7, 17, 0, []), (3, 5, 0, 0, []), (60, 0, 0, 0, []), (37, 60, 0, 0, []), (1, 0, 0, (-9), []), (42, 62, 0, 0, [])]
theorem h_X7_wrongDay_22 : mj_ch 7 cX7_wrongDay 22 k_X7_wrongDay_22 60 = true := by decide +kernel
def k_X7_wrongDay_60 : List mj_O := [(3, 5, 0, 0, [])]
theorem h_X7_wrongDay_60 : mj_ch 7 cX7_wrongDay 60 k_X7_wrongDay_60 62 = true := by decide +kernel
def k_X7_wrongDay_62 : List mj_O := [(5, 4, 0, 0, []), (4, 0, 0, 0, []), (70, 510, 0, 0, []), (4, 0, 0, 0, []), (51, 7, 1, 0, []), (1, 0, 0, 6, []), (4, 0, 0, 0, []), (51, 7, 1, 0, []), (1, 0, 0, 6, []), (60, 0, 0, 0, []), (1, 0, 0, 1, []), (10, 0, 0, 0, []), (1, 0, 0, 7, []), (14, 0, 0, 0, []), (61, 0, 0, 0, []), (7, 5, 0, 1, []), (42, 22, 0, 0, [])]
theorem h_X7_wrongDay_62 : mj_ch 7 cX7_wrongDay 62 k_X7_wrongDay_62 93 = true := by decide +kernel
def k_X7_wrongDay_93 : List mj_O := [(4, 0, 0, 0, []), (51, 7, 1, 0, []), (1, 0, 0, 5, []), (3, 2, 0, 0, []), (61, 0, 0, 0, []), (4, 0, 0, 0, []), (51, 7, 1, 0, []), (1, 0, 0, 6, []), (3, 3, 0, 0, []), (61, 0, 0, 0, []), (3, 4, 0, 0, []), (80, 0, 0, 0, [])]
theorem h_X7_wrongDay_93 : mj_ch 7 cX7_wrongDay 93 k_X7_wrongDay_93 111 = true := by decide +kernel
def k_X7_judge_0 : List mj_O := [(4, 0, 0, 0, []), (3, 1, 0, 0, []), (70, 255, 0, 0, []), (30, 16, 0, 0, []), (4, 0, 0, 0, []), (3, 1, 0, 0, []), (70, 528, 0, 0, []), (42, 21, 0, 0, [])]
theorem h_X7_judge_0 : mj_ch 7 cX7_judge 0 k_X7_judge_0 16 = true := by decide +kernel
def k_X7_judge_16 : List mj_O := [(4, 0, 0, 0, []), (1, 0, 0, (-1), []), (70, 123, 0, 0, [])]
theorem h_X7_judge_16 : mj_ch 7 cX7_judge 16 k_X7_judge_16 21 = true := by decide +kernel
def k_X7_judge_21 : List mj_O := [(80, 0, 0, 0, [])]
theorem h_X7_judge_21 : mj_ch 7 cX7_judge 21 k_X7_judge_21 22 = true := by decide +kernel
def k_X7_firms_0 : List mj_O := [(4, 0, 0, 0, []), (3, 1, 0, 0, []), (70, 255, 0, 0, []), (31, 12, 0, 0, []), (1, 0, 0, (-1), []), (42, 26, 0, 0, [])]
theorem h_X7_firms_0 : mj_ch 7 cX7_firms 0 k_X7_firms_0 12 = true := by decide +kernel
def k_X7_firms_12 : List mj_O := [(3, 2, 0, 0, []), (1, 0, 0, 2, []), (70, 149, 0, 0, []), (30, 24, 0, 0, []), (1, 0, 0, 0, []), (42, 26, 0, 0, [])]
theorem h_X7_firms_12 : mj_ch 7 cX7_firms 12 k_X7_firms_12 24 = true := by decide +kernel
def k_X7_firms_24 : List mj_O := [(1, 0, 0, (-2), [])]
theorem h_X7_firms_24 : mj_ch 7 cX7_firms 24 k_X7_firms_24 26 = true := by decide +kernel
def k_X7_firms_26 : List mj_O := [(5, 3, 0, 0, []), (3, 3, 0, 0, []), (30, 37, 0, 0, []), (4, 0, 0, 0, []), (3, 3, 0, 0, []), (70, 123, 0, 0, []), (80, 0, 0, 0, [])]
theorem h_X7_firms_26 : mj_ch 7 cX7_firms 26 k_X7_firms_26 37 = true := by decide +kernel
def k_X7_firms_37 : List mj_O := [(4, 0, 0, 0, []), (70, 483, 0, 0, []), (1, 0, 0, 0, []), (5, 4, 0, 0, []), (1, 0, 0, (-9), []), (5, 5, 0, 0, []), (1, 0, 0, 99, []), (5, 6, 0, 0, [])]
theorem h_X7_firms_37 : mj_ch 7 cX7_firms 37 k_X7_firms_37 52 = true := by decide +kernel
def k_X7_firms_52 : List mj_O := [(3, 6, 0, 0, []), (32, 89, 0, 0, []), (4, 0, 0, 0, []), (51, 7, 1, 0, []), (1, 0, 0, 4, []), (3, 6, 0, 0, []), (61, 0, 0, 0, []), (4, 0, 0, 0, []), (3, 1, 0, 0, []), (70, 528, 0, 0, []), (32, 76, 0, 0, []), (42, 83, 0, 0, [])]
theorem h_X7_firms_52 : mj_ch 7 cX7_firms 52 k_X7_firms_52 76 = true := by decide +kernel
def k_X7_firms_76 : List mj_O := [(7, 4, 0, 1, []), (3, 6, 0, 0, []), (5, 5, 0, 0, [])]
theorem h_X7_firms_76 : mj_ch 7 cX7_firms 76 k_X7_firms_76 83 = true := by decide +kernel
def k_X7_firms_83 : List mj_O := [(7, 6, 0, (-1), []), (42, 52, 0, 0, [])]
theorem h_X7_firms_83 : mj_ch 7 cX7_firms 83 k_X7_firms_83 89 = true := by decide +kernel
def k_X7_firms_89 : List mj_O := [(4, 0, 0, 0, []), (70, 492, 0, 0, []), (3, 2, 0, 0, []), (31, 102, 0, 0, []), (3, 4, 0, 0, []), (42, 104, 0, 0, [])]
theorem h_X7_firms_89 : mj_ch 7 cX7_firms 89 k_X7_firms_89 102 = true := by decide +kernel
def k_X7_firms_102 : List mj_O := [(3, 5, 0, 0, [])]
theorem h_X7_firms_102 : mj_ch 7 cX7_firms 102 k_X7_firms_102 104 = true := by decide +kernel
def k_X7_firms_104 : List mj_O := [(80, 0, 0, 0, [])]
theorem h_X7_firms_104 : mj_ch 7 cX7_firms 104 k_X7_firms_104 105 = true := by decide +kernel
def k_X7_clear_0 : List mj_O := [(4, 0, 0, 0, []), (50, 7, 18, 0, []), (5, 1, 0, 0, []), (4, 0, 0, 0, []), (1, 0, 0, 0, []), (52, 7, 18, 0, []), (3, 1, 0, 0, []), (80, 0, 0, 0, [])]
theorem h_X7_clear_0 : mj_ch 7 cX7_clear 0 k_X7_clear_0 12 = true := by decide +kernel
def k_X7_lots_0 : List mj_O := [(4, 0, 0, 0, []), (3, 1, 0, 0, []), (70, 255, 0, 0, []), (30, 18, 0, 0, []), (3, 2, 0, 0, []), (1, 0, 0, 1, []), (1, 0, 0, 30, []), (70, 161, 0, 0, []), (42, 19, 0, 0, [])]
theorem h_X7_lots_0 : mj_ch 7 cX7_lots 0 k_X7_lots_0 18 = true := by decide +kernel
def k_X7_lots_18 : List mj_O := [(1, 0, 0, (-1), [])]
theorem h_X7_lots_18 : mj_ch 7 cX7_lots 18 k_X7_lots_18 19 = true := by decide +kernel
def k_X7_lots_19 : List mj_O := [(5, 4, 0, 0, []), (3, 4, 0, 0, []), (30, 33, 0, 0, []), (4, 0, 0, 0, []), (3, 4, 0, 0, []), (70, 123, 0, 0, []), (80, 0, 0, 0, [])]
theorem h_X7_lots_19 : mj_ch 7 cX7_lots 19 k_X7_lots_19 33 = true := by decide +kernel
def k_X7_lots_33 : List mj_O := [(4, 0, 0, 0, []), (70, 483, 0, 0, []), (3, 3, 0, 0, []), (5, 5, 0, 0, []), (1, 0, 0, 0, []), (5, 6, 0, 0, []), (1, 0, 0, 0, []), (5, 7, 0, 0, [])]
theorem h_X7_lots_33 : mj_ch 7 cX7_lots 33 k_X7_lots_33 46 = true := by decide +kernel
def k_X7_lots_46 : List mj_O := [(3, 7, 0, 0, []), (3, 2, 0, 0, []), (39, 143, 0, 0, []), (1, 0, 0, 0, []), (5, 8, 0, 0, [])]
theorem h_X7_lots_46 : mj_ch 7 cX7_lots 46 k_X7_lots_46 55 = true := by decide +kernel
def k_X7_lots_55 : List mj_O := [(3, 8, 0, 0, []), (4, 0, 0, 0, []), (51, 7, 1, 0, []), (1, 0, 0, 1, []), (60, 0, 0, 0, []), (39, 123, 0, 0, []), (4, 0, 0, 0, []), (3, 8, 0, 0, []), (1, 0, 0, 1, []), (70, 315, 0, 0, []), (3, 1, 0, 0, []), (36, 80, 0, 0, []), (42, 117, 0, 0, [])]
theorem h_X7_lots_55 : mj_ch 7 cX7_lots 55 k_X7_lots_55 80 = true := by decide +kernel
def k_X7_lots_80 : List mj_O := [(3, 5, 0, 0, []), (1, 0, 0, 1664525, []), (12, 0, 0, 0, []), (1, 0, 0, 1013904223, []), (10, 0, 0, 0, []), (5, 5, 0, 0, []), (4, 0, 0, 0, []), (51, 7, 1, 0, []), (1, 0, 0, 23, []), (1, 0, 0, 5, []), (3, 8, 0, 0, []), (12, 0, 0, 0, []), (10, 0, 0, 0, []), (1, 0, 0, 2, []), (10, 0, 0, 0, []), (3, 5, 0, 0, []), (1, 0, 0, 2147483647, []), (18, 0, 0, 0, []), (1, 0, 0, 256, []), (13, 0, 0, 0, []), (1, 0, 0, 300, []), (14, 0, 0, 0, []), (61, 0, 0, 0, [])]
theorem h_X7_lots_80 : mj_ch 7 cX7_lots 80 k_X7_lots_80 117 = true := by decide +kernel
def k_X7_lots_117 : List mj_O := [(7, 8, 0, 1, []), (42, 55, 0, 0, [])]
theorem h_X7_lots_117 : mj_ch 7 cX7_lots 117 k_X7_lots_117 123 = true := by decide +kernel
def k_X7_lots_123 : List mj_O := [(4, 0, 0, 0, []), (3, 1, 0, 0, []), (70, 435, 0, 0, []), (3, 6, 0, 0, []), (4, 0, 0, 0, []), (50, 7, 13, 0, []), (10, 0, 0, 0, []), (5, 6, 0, 0, []), (7, 7, 0, 1, []), (42, 46, 0, 0, [])]
theorem h_X7_lots_123 : mj_ch 7 cX7_lots 123 k_X7_lots_123 143 = true := by decide +kernel
def k_X7_lots_143 : List mj_O := [(4, 0, 0, 0, []), (70, 492, 0, 0, []), (3, 6, 0, 0, []), (80, 0, 0, 0, [])]
theorem h_X7_lots_143 : mj_ch 7 cX7_lots 143 k_X7_lots_143 150 = true := by decide +kernel
def k_X7_image_0 : List mj_O := [(4, 0, 0, 0, []), (51, 7, 1, 0, []), (4, 0, 0, 0, []), (51, 7, 2, 0, []), (70, 137, 0, 0, []), (4, 0, 0, 0, []), (1, 0, 0, 1, []), (53, 7, 5, 0, []), (4, 0, 0, 0, []), (51, 7, 1, 0, []), (1, 0, 0, 6, []), (60, 0, 0, 0, []), (80, 0, 0, 0, [])]
theorem h_X7_image_0 : mj_ch 7 cX7_image 0 k_X7_image_0 24 = true := by decide +kernel
def k_X7_on_0 : List mj_O := [(4, 0, 0, 0, []), (50, 7, 5, 0, []), (31, 14, 0, 0, []), (4, 0, 0, 0, []), (1, 0, 0, (-3), []), (70, 123, 0, 0, []), (80, 0, 0, 0, [])]
theorem h_X7_on_0 : mj_ch 7 cX7_on 0 k_X7_on_0 14 = true := by decide +kernel
def k_X7_on_14 : List mj_O := [(4, 0, 0, 0, []), (51, 7, 2, 0, []), (4, 0, 0, 0, []), (51, 7, 1, 0, []), (70, 137, 0, 0, []), (4, 0, 0, 0, []), (51, 7, 1, 0, []), (1, 0, 0, 6, []), (60, 0, 0, 0, []), (80, 0, 0, 0, [])]
theorem h_X7_on_14 : mj_ch 7 cX7_on 14 k_X7_on_14 33 = true := by decide +kernel
def k_X7_count_0 : List mj_O := [(3, 1, 0, 0, []), (1, 0, 0, 10, []), (41, 22, 0, 0, []), (3, 1, 0, 0, []), (1, 0, 0, 17, []), (39, 22, 0, 0, []), (4, 0, 0, 0, []), (51, 7, 0, 0, []), (3, 1, 0, 0, []), (1, 0, 0, 10, []), (11, 0, 0, 0, []), (60, 0, 0, 0, []), (80, 0, 0, 0, [])]
theorem h_X7_count_0 : mj_ch 7 cX7_count 0 k_X7_count_0 22 = true := by decide +kernel
def k_X7_count_22 : List mj_O := [(1, 0, 0, 0, []), (5, 2, 0, 0, []), (3, 1, 0, 0, []), (43, 135, 0, 0, [(0, 80), (1, 80), (2, 80), (3, 87), (4, 116), (5, 116), (6, 116), (7, 116), (8, 125), (9, 130)])]
theorem h_X7_count_22 : mj_ch 7 cX7_count 22 k_X7_count_22 80 = true := by decide +kernel
def k_X7_count_80 : List mj_O := [(4, 0, 0, 0, []), (51, 7, 1, 0, []), (3, 1, 0, 0, []), (60, 0, 0, 0, []), (80, 0, 0, 0, [])]
theorem h_X7_count_80 : mj_ch 7 cX7_count 80 k_X7_count_80 87 = true := by decide +kernel
def k_X7_count_87 : List mj_O := [(1, 0, 0, 0, []), (5, 3, 0, 0, [])]
theorem h_X7_count_87 : mj_ch 7 cX7_count 87 k_X7_count_87 89 = true := by decide +kernel
def k_X7_count_89 : List mj_O := [(3, 3, 0, 0, []), (4, 0, 0, 0, []), (51, 7, 1, 0, []), (1, 0, 0, 2, []), (60, 0, 0, 0, []), (39, 114, 0, 0, []), (3, 2, 0, 0, []), (4, 0, 0, 0, []), (3, 3, 0, 0, []), (1, 0, 0, 0, []), (70, 324, 0, 0, []), (10, 0, 0, 0, []), (5, 2, 0, 0, []), (7, 3, 0, 1, []), (42, 89, 0, 0, [])]
theorem h_X7_count_89 : mj_ch 7 cX7_count 89 k_X7_count_89 114 = true := by decide +kernel
def k_X7_count_114 : List mj_O := [(3, 2, 0, 0, []), (80, 0, 0, 0, [])]
theorem h_X7_count_114 : mj_ch 7 cX7_count 114 k_X7_count_114 116 = true := by decide +kernel
def k_X7_count_116 : List mj_O := [(4, 0, 0, 0, []), (51, 7, 1, 0, []), (3, 1, 0, 0, []), (1, 0, 0, 1, []), (11, 0, 0, 0, []), (60, 0, 0, 0, []), (80, 0, 0, 0, [])]
theorem h_X7_count_116 : mj_ch 7 cX7_count 116 k_X7_count_116 125 = true := by decide +kernel
def k_X7_count_125 : List mj_O := [(4, 0, 0, 0, []), (50, 7, 18, 0, []), (80, 0, 0, 0, [])]
theorem h_X7_count_125 : mj_ch 7 cX7_count 125 k_X7_count_125 130 = true := by decide +kernel
def k_X7_count_130 : List mj_O := [(4, 0, 0, 0, []), (50, 7, 8, 0, []), (80, 0, 0, 0, [])]
theorem h_X7_count_130 : mj_ch 7 cX7_count 130 k_X7_count_130 135 = true := by decide +kernel
def k_X7_count_135 : List mj_O := [(1, 0, 0, (-9), []), (80, 0, 0, 0, [])]
theorem h_X7_count_135 : mj_ch 7 cX7_count 135 k_X7_count_135 138 = true := by decide +kernel
