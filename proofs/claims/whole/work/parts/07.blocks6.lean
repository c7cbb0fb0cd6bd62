/-! blocks of instructions, and that they are the code -/
def k_X6_letter_0 : List mj_O := [(3, 1, 0, 0, []), (1, 0, 0, 0, []), (1, 0, 0, 255, []), (70, 155, 0, 0, []), (5, 2, 0, 0, []), (3, 2, 0, 0, []), (31, 26, 0, 0, []), (4, 0, 0, 0, []), (51, 6, 5, 0, []), (70, 165, 0, 0, []), (30, 26, 0, 0, []), (1, 0, 0, (-6), []), (5, 2, 0, 0, [])]
theorem h_X6_letter_0 : mj_ch 6 cX6_letter 0 k_X6_letter_0 26 = true := by decide +kernel
def k_X6_letter_26 : List mj_O := [(3, 2, 0, 0, []), (30, 38, 0, 0, []), (4, 0, 0, 0, []), (3, 2, 0, 0, []), (70, 177, 0, 0, []), (42, 47, 0, 0, [])]
theorem h_X6_letter_26 : mj_ch 6 cX6_letter 26 k_X6_letter_26 38 = true := by decide +kernel
def k_X6_letter_38 : List mj_O := [(4, 0, 0, 0, []), (51, 6, 5, 0, []), (3, 1, 0, 0, []), (20, 0, 0, 0, []), (70, 189, 0, 0, [])]
theorem h_X6_letter_38 : mj_ch 6 cX6_letter 38 k_X6_letter_38 47 = true := by decide +kernel
def k_X6_letter_47 : List mj_O := [(80, 0, 0, 0, [])]
theorem h_X6_letter_47 : mj_ch 6 cX6_letter 47 k_X6_letter_47 48 = true := by decide +kernel
def k_X6_room_0 : List mj_O := [(4, 0, 0, 0, []), (51, 6, 1, 0, []), (4, 0, 0, 0, []), (51, 6, 0, 0, []), (70, 201, 0, 0, []), (4, 0, 0, 0, []), (51, 6, 5, 0, []), (4, 0, 0, 0, []), (51, 6, 1, 0, []), (70, 213, 0, 0, []), (5, 1, 0, 0, []), (3, 1, 0, 0, []), (35, 38, 0, 0, []), (4, 0, 0, 0, []), (51, 6, 0, 0, []), (4, 0, 0, 0, []), (51, 6, 1, 0, []), (70, 201, 0, 0, [])]
theorem h_X6_room_0 : mj_ch 6 cX6_room 0 k_X6_room_0 38 = true := by decide +kernel
def k_X6_room_38 : List mj_O := [(4, 0, 0, 0, []), (51, 6, 5, 0, []), (70, 225, 0, 0, []), (3, 1, 0, 0, []), (80, 0, 0, 0, [])]
theorem h_X6_room_38 : mj_ch 6 cX6_room 38 k_X6_room_38 47 = true := by decide +kernel
def k_X6_sleeper_0 : List mj_O := [(4, 0, 0, 0, []), (3, 1, 0, 0, []), (70, 234, 0, 0, []), (3, 2, 0, 0, []), (1, 0, 0, 4, []), (70, 245, 0, 0, []), (70, 257, 0, 0, []), (5, 3, 0, 0, []), (3, 3, 0, 0, []), (30, 26, 0, 0, []), (4, 0, 0, 0, []), (3, 3, 0, 0, []), (70, 177, 0, 0, []), (42, 39, 0, 0, [])]
theorem h_X6_sleeper_0 : mj_ch 6 cX6_sleeper 0 k_X6_sleeper_0 26 = true := by decide +kernel
def k_X6_sleeper_26 : List mj_O := [(4, 0, 0, 0, []), (51, 6, 0, 0, []), (51, 2, 0, 0, []), (3, 1, 0, 0, []), (64, 0, 0, 0, []), (3, 2, 0, 0, []), (70, 276, 0, 0, [])]
theorem h_X6_sleeper_26 : mj_ch 6 cX6_sleeper 26 k_X6_sleeper_26 39 = true := by decide +kernel
def k_X6_sleeper_39 : List mj_O := [(80, 0, 0, 0, [])]
theorem h_X6_sleeper_39 : mj_ch 6 cX6_sleeper 39 k_X6_sleeper_39 40 = true := by decide +kernel
def k_X6_clock_0 : List mj_O := [(4, 0, 0, 0, []), (3, 1, 0, 0, []), (70, 291, 0, 0, []), (3, 2, 0, 0, []), (1, 0, 0, 5, []), (70, 245, 0, 0, []), (70, 257, 0, 0, []), (5, 3, 0, 0, []), (3, 3, 0, 0, []), (30, 26, 0, 0, []), (4, 0, 0, 0, []), (3, 3, 0, 0, []), (70, 177, 0, 0, []), (42, 39, 0, 0, [])]
theorem h_X6_clock_0 : mj_ch 6 cX6_clock 0 k_X6_clock_0 26 = true := by decide +kernel
def k_X6_clock_26 : List mj_O := [(4, 0, 0, 0, []), (51, 6, 0, 0, []), (51, 2, 1, 0, []), (3, 1, 0, 0, []), (64, 0, 0, 0, []), (3, 2, 0, 0, []), (70, 312, 0, 0, [])]
theorem h_X6_clock_26 : mj_ch 6 cX6_clock 26 k_X6_clock_26 39 = true := by decide +kernel
def k_X6_clock_39 : List mj_O := [(80, 0, 0, 0, [])]
theorem h_X6_clock_39 : mj_ch 6 cX6_clock 39 k_X6_clock_39 40 = true := by decide +kernel
def k_X6_task_0 : List mj_O := [(4, 0, 0, 0, []), (3, 1, 0, 0, []), (70, 321, 0, 0, []), (3, 2, 0, 0, []), (1, 0, 0, 2, []), (70, 245, 0, 0, []), (70, 257, 0, 0, []), (5, 3, 0, 0, []), (3, 3, 0, 0, []), (30, 26, 0, 0, []), (4, 0, 0, 0, []), (3, 3, 0, 0, []), (70, 177, 0, 0, []), (42, 39, 0, 0, [])]
theorem h_X6_task_0 : mj_ch 6 cX6_task 0 k_X6_task_0 26 = true := by decide +kernel
def k_X6_task_26 : List mj_O := [(4, 0, 0, 0, []), (51, 6, 0, 0, []), (51, 2, 2, 0, []), (3, 1, 0, 0, []), (64, 0, 0, 0, []), (3, 2, 0, 0, []), (70, 342, 0, 0, [])]
theorem h_X6_task_26 : mj_ch 6 cX6_task 26 k_X6_task_26 39 = true := by decide +kernel
def k_X6_task_39 : List mj_O := [(80, 0, 0, 0, [])]
theorem h_X6_task_39 : mj_ch 6 cX6_task 39 k_X6_task_39 40 = true := by decide +kernel
def k_X6_set_0 : List mj_O := [(4, 0, 0, 0, []), (3, 1, 0, 0, []), (70, 291, 0, 0, []), (3, 2, 0, 0, []), (1, 0, 0, 0, []), (1, 0, 0, 299, []), (70, 155, 0, 0, []), (70, 257, 0, 0, []), (5, 3, 0, 0, []), (3, 3, 0, 0, []), (30, 29, 0, 0, []), (4, 0, 0, 0, []), (3, 3, 0, 0, []), (70, 177, 0, 0, []), (42, 43, 0, 0, [])]
theorem h_X6_set_0 : mj_ch 6 cX6_set 0 k_X6_set_0 29 = true := by decide +kernel
def k_X6_set_29 : List mj_O := [(4, 0, 0, 0, []), (51, 6, 0, 0, []), (51, 2, 1, 0, []), (3, 1, 0, 0, []), (64, 0, 0, 0, []), (1, 0, 0, 2, []), (3, 2, 0, 0, []), (70, 351, 0, 0, [])]
theorem h_X6_set_29 : mj_ch 6 cX6_set 29 k_X6_set_29 43 = true := by decide +kernel
def k_X6_set_43 : List mj_O := [(80, 0, 0, 0, [])]
theorem h_X6_set_43 : mj_ch 6 cX6_set 43 k_X6_set_43 44 = true := by decide +kernel
def k_X6_every_0 : List mj_O := [(4, 0, 0, 0, []), (3, 1, 0, 0, []), (70, 291, 0, 0, []), (3, 2, 0, 0, []), (1, 0, 0, 1, []), (1, 0, 0, 20, []), (70, 155, 0, 0, []), (70, 257, 0, 0, []), (5, 3, 0, 0, []), (3, 3, 0, 0, []), (30, 28, 0, 0, []), (4, 0, 0, 0, []), (3, 3, 0, 0, []), (70, 177, 0, 0, []), (42, 42, 0, 0, [])]
theorem h_X6_every_0 : mj_ch 6 cX6_every 0 k_X6_every_0 28 = true := by decide +kernel
def k_X6_every_28 : List mj_O := [(4, 0, 0, 0, []), (51, 6, 0, 0, []), (51, 2, 1, 0, []), (3, 1, 0, 0, []), (64, 0, 0, 0, []), (1, 0, 0, 3, []), (3, 2, 0, 0, []), (70, 351, 0, 0, [])]
theorem h_X6_every_28 : mj_ch 6 cX6_every 28 k_X6_every_28 42 = true := by decide +kernel
def k_X6_every_42 : List mj_O := [(80, 0, 0, 0, [])]
theorem h_X6_every_42 : mj_ch 6 cX6_every 42 k_X6_every_42 43 = true := by decide +kernel
def k_X6_firm_0 : List mj_O := [(3, 1, 0, 0, []), (1, 0, 0, 0, []), (1, 0, 0, 99, []), (70, 155, 0, 0, []), (5, 2, 0, 0, []), (3, 2, 0, 0, []), (30, 18, 0, 0, []), (4, 0, 0, 0, []), (3, 2, 0, 0, []), (70, 177, 0, 0, []), (80, 0, 0, 0, [])]
theorem h_X6_firm_0 : mj_ch 6 cX6_firm 0 k_X6_firm_0 18 = true := by decide +kernel
def k_X6_firm_18 : List mj_O := [(4, 0, 0, 0, []), (51, 6, 0, 0, []), (50, 2, 7, 0, []), (5, 3, 0, 0, []), (4, 0, 0, 0, []), (51, 6, 0, 0, []), (3, 1, 0, 0, []), (52, 2, 7, 0, []), (3, 3, 0, 0, []), (80, 0, 0, 0, [])]
theorem h_X6_firm_18 : mj_ch 6 cX6_firm 18 k_X6_firm_18 36 = true := by decide +kernel
def k_X6_bus_0 : List mj_O := [(3, 1, 0, 0, []), (1, 0, 0, 0, []), (1, 0, 0, 299, []), (70, 155, 0, 0, []), (5, 2, 0, 0, []), (3, 2, 0, 0, []), (30, 19, 0, 0, []), (4, 0, 0, 0, []), (3, 2, 0, 0, []), (70, 177, 0, 0, []), (80, 0, 0, 0, [])]
theorem h_X6_bus_0 : mj_ch 6 cX6_bus 0 k_X6_bus_0 19 = true := by decide +kernel
def k_X6_bus_19 : List mj_O := [(4, 0, 0, 0, []), (51, 6, 0, 0, []), (50, 2, 6, 0, []), (5, 3, 0, 0, []), (4, 0, 0, 0, []), (51, 6, 0, 0, []), (3, 1, 0, 0, []), (52, 2, 6, 0, []), (3, 3, 0, 0, []), (80, 0, 0, 0, [])]
theorem h_X6_bus_19 : mj_ch 6 cX6_bus 19 k_X6_bus_19 37 = true := by decide +kernel
def k_X6_tired_0 : List mj_O := [(3, 1, 0, 0, []), (1, 0, 0, 0, []), (1, 0, 0, 9, []), (70, 155, 0, 0, []), (5, 2, 0, 0, []), (3, 2, 0, 0, []), (30, 18, 0, 0, []), (4, 0, 0, 0, []), (3, 2, 0, 0, []), (70, 177, 0, 0, []), (80, 0, 0, 0, [])]
theorem h_X6_tired_0 : mj_ch 6 cX6_tired 0 k_X6_tired_0 18 = true := by decide +kernel
def k_X6_tired_18 : List mj_O := [(4, 0, 0, 0, []), (51, 6, 0, 0, []), (50, 2, 8, 0, []), (5, 3, 0, 0, []), (4, 0, 0, 0, []), (51, 6, 0, 0, []), (3, 1, 0, 0, []), (52, 2, 8, 0, []), (3, 3, 0, 0, []), (80, 0, 0, 0, [])]
theorem h_X6_tired_18 : mj_ch 6 cX6_tired 18 k_X6_tired_18 36 = true := by decide +kernel
def k_X6_night_0 : List mj_O := [(4, 0, 0, 0, []), (51, 6, 0, 0, []), (50, 2, 3, 0, []), (31, 17, 0, 0, []), (4, 0, 0, 0, []), (1, 0, 0, (-3), []), (70, 177, 0, 0, []), (80, 0, 0, 0, [])]
theorem h_X6_night_0 : mj_ch 6 cX6_night 0 k_X6_night_0 17 = true := by decide +kernel
def k_X6_night_17 : List mj_O := [(4, 0, 0, 0, []), (51, 6, 4, 0, []), (4, 0, 0, 0, []), (51, 6, 0, 0, []), (1, 0, 0, 0, []), (1, 0, 0, (-1), []), (70, 396, 0, 0, []), (4, 0, 0, 0, []), (51, 6, 0, 0, []), (4, 0, 0, 0, []), (51, 6, 4, 0, []), (50, 1, 4, 0, []), (70, 417, 0, 0, []), (4, 0, 0, 0, []), (51, 6, 0, 0, []), (50, 2, 9, 0, []), (80, 0, 0, 0, [])]
theorem h_X6_night_17 : mj_ch 6 cX6_night 17 k_X6_night_17 52 = true := by decide +kernel
def k_X6_depth_0 : List mj_O := [(4, 0, 0, 0, []), (3, 1, 0, 0, []), (70, 234, 0, 0, []), (3, 2, 0, 0, []), (1, 0, 0, 0, []), (1, 0, 0, 299, []), (70, 155, 0, 0, []), (70, 257, 0, 0, []), (5, 3, 0, 0, []), (3, 3, 0, 0, []), (30, 29, 0, 0, []), (4, 0, 0, 0, []), (3, 3, 0, 0, []), (70, 177, 0, 0, []), (42, 38, 0, 0, [])]
theorem h_X6_depth_0 : mj_ch 6 cX6_depth 0 k_X6_depth_0 29 = true := by decide +kernel
def k_X6_depth_29 : List mj_O := [(4, 0, 0, 0, []), (51, 6, 0, 0, []), (3, 1, 0, 0, []), (3, 2, 0, 0, []), (70, 438, 0, 0, [])]
theorem h_X6_depth_29 : mj_ch 6 cX6_depth 29 k_X6_depth_29 38 = true := by decide +kernel
def k_X6_depth_38 : List mj_O := [(80, 0, 0, 0, [])]
theorem h_X6_depth_38 : mj_ch 6 cX6_depth 38 k_X6_depth_38 39 = true := by decide +kernel
def k_X6_up_0 : List mj_O := [(4, 0, 0, 0, []), (3, 1, 0, 0, []), (70, 234, 0, 0, []), (5, 2, 0, 0, []), (3, 2, 0, 0, []), (31, 23, 0, 0, []), (4, 0, 0, 0, []), (51, 6, 4, 0, []), (4, 0, 0, 0, []), (51, 6, 0, 0, []), (3, 1, 0, 0, []), (1, 0, 0, (-1), []), (70, 396, 0, 0, [])]
theorem h_X6_up_0 : mj_ch 6 cX6_up 0 k_X6_up_0 23 = true := by decide +kernel
def k_X6_up_23 : List mj_O := [(3, 2, 0, 0, []), (30, 35, 0, 0, []), (4, 0, 0, 0, []), (3, 2, 0, 0, []), (70, 177, 0, 0, []), (42, 42, 0, 0, [])]
theorem h_X6_up_23 : mj_ch 6 cX6_up 23 k_X6_up_23 35 = true := by decide +kernel
def k_X6_up_35 : List mj_O := [(4, 0, 0, 0, []), (51, 6, 4, 0, []), (50, 1, 3, 0, [])]
theorem h_X6_up_35 : mj_ch 6 cX6_up 35 k_X6_up_35 42 = true := by decide +kernel
def k_X6_up_42 : List mj_O := [(80, 0, 0, 0, [])]
theorem h_X6_up_42 : mj_ch 6 cX6_up 42 k_X6_up_42 43 = true := by decide +kernel
def k_X6_presses_0 : List mj_O := [(4, 0, 0, 0, []), (3, 1, 0, 0, []), (70, 234, 0, 0, []), (5, 2, 0, 0, []), (3, 2, 0, 0, []), (31, 23, 0, 0, []), (4, 0, 0, 0, []), (51, 6, 4, 0, []), (4, 0, 0, 0, []), (51, 6, 0, 0, []), (3, 1, 0, 0, []), (1, 0, 0, (-1), []), (70, 396, 0, 0, [])]
theorem h_X6_presses_0 : mj_ch 6 cX6_presses 0 k_X6_presses_0 23 = true := by decide +kernel
def k_X6_presses_23 : List mj_O := [(3, 2, 0, 0, []), (30, 35, 0, 0, []), (4, 0, 0, 0, []), (3, 2, 0, 0, []), (70, 177, 0, 0, []), (42, 42, 0, 0, [])]
theorem h_X6_presses_23 : mj_ch 6 cX6_presses 23 k_X6_presses_23 35 = true := by decide +kernel
def k_X6_presses_35 : List mj_O := [(4, 0, 0, 0, []), (51, 6, 4, 0, []), (50, 1, 4, 0, [])]
theorem h_X6_presses_35 : mj_ch 6 cX6_presses 35 k_X6_presses_35 42 = true := by decide +kernel
def k_X6_presses_42 : List mj_O := [(80, 0, 0, 0, [])]
theorem h_X6_presses_42 : mj_ch 6 cX6_presses 42 k_X6_presses_42 43 = true := by decide +kernel
def k_X6_slept_0 : List mj_O := [(4, 0, 0, 0, []), (3, 1, 0, 0, []), (70, 234, 0, 0, []), (5, 2, 0, 0, []), (3, 2, 0, 0, []), (31, 23, 0, 0, []), (4, 0, 0, 0, []), (51, 6, 4, 0, []), (4, 0, 0, 0, []), (51, 6, 0, 0, []), (3, 1, 0, 0, []), (1, 0, 0, (-1), []), (70, 396, 0, 0, [])]
theorem h_X6_slept_0 : mj_ch 6 cX6_slept 0 k_X6_slept_0 23 = true := by decide +kernel
def k_X6_slept_23 : List mj_O := [(3, 2, 0, 0, []), (30, 35, 0, 0, []), (4, 0, 0, 0, []), (3, 2, 0, 0, []), (70, 177, 0, 0, []), (42, 42, 0, 0, [])]
theorem h_X6_slept_23 : mj_ch 6 cX6_slept 23 k_X6_slept_23 35 = true := by decide +kernel
def k_X6_slept_35 : List mj_O := [(4, 0, 0, 0, []), (51, 6, 4, 0, []), (50, 1, 5, 0, [])]
theorem h_X6_slept_35 : mj_ch 6 cX6_slept 35 k_X6_slept_35 42 = true := by decide +kernel
def k_X6_slept_42 : List mj_O := [(80, 0, 0, 0, [])]
theorem h_X6_slept_42 : mj_ch 6 cX6_slept 42 k_X6_slept_42 43 = true := by decide +kernel
def k_X6_done_0 : List mj_O := [(3, 1, 0, 0, []), (1, 0, 0, 0, []), (1, 0, 0, 300, []), (70, 155, 0, 0, []), (3, 2, 0, 0, []), (1, 0, 0, 2, []), (70, 245, 0, 0, []), (70, 257, 0, 0, []), (5, 3, 0, 0, []), (3, 3, 0, 0, []), (30, 27, 0, 0, []), (4, 0, 0, 0, []), (3, 3, 0, 0, []), (70, 177, 0, 0, []), (80, 0, 0, 0, [])]
theorem h_X6_done_0 : mj_ch 6 cX6_done 0 k_X6_done_0 27 = true := by decide +kernel
def k_X6_done_27 : List mj_O := [(4, 0, 0, 0, []), (51, 6, 0, 0, []), (3, 1, 0, 0, []), (70, 465, 0, 0, []), (5, 4, 0, 0, []), (3, 2, 0, 0, []), (31, 46, 0, 0, []), (3, 4, 0, 0, []), (42, 56, 0, 0, [])]
theorem h_X6_done_27 : mj_ch 6 cX6_done 27 k_X6_done_27 46 = true := by decide +kernel
def k_X6_done_46 : List mj_O := [(4, 0, 0, 0, []), (51, 6, 0, 0, []), (3, 4, 0, 0, []), (1, 0, 0, 1, []), (70, 474, 0, 0, [])]
theorem h_X6_done_46 : mj_ch 6 cX6_done 46 k_X6_done_46 56 = true := by decide +kernel
def k_X6_done_56 : List mj_O := [(80, 0, 0, 0, [])]
theorem h_X6_done_56 : mj_ch 6 cX6_done 56 k_X6_done_56 57 = true := by decide +kernel
def k_X6_value_0 : List mj_O := [(4, 0, 0, 0, []), (3, 1, 0, 0, []), (70, 234, 0, 0, []), (5, 2, 0, 0, []), (3, 2, 0, 0, []), (30, 18, 0, 0, []), (4, 0, 0, 0, []), (3, 2, 0, 0, []), (70, 483, 0, 0, []), (42, 27, 0, 0, [])]
theorem h_X6_value_0 : mj_ch 6 cX6_value 0 k_X6_value_0 18 = true := by decide +kernel
def k_X6_value_18 : List mj_O := [(4, 0, 0, 0, []), (4, 0, 0, 0, []), (51, 6, 0, 0, []), (3, 1, 0, 0, []), (70, 492, 0, 0, [])]
theorem h_X6_value_18 : mj_ch 6 cX6_value 18 k_X6_value_18 27 = true := by decide +kernel
def k_X6_value_27 : List mj_O := [(80, 0, 0, 0, [])]
theorem h_X6_value_27 : mj_ch 6 cX6_value 27 k_X6_value_27 28 = true := by decide +kernel
def k_X6_cost_0 : List mj_O := [(3, 1, 0, 0, []), (1, 0, 0, 0, []), (1, 0, 0, 299, []), (70, 155, 0, 0, []), (5, 2, 0, 0, []), (3, 2, 0, 0, []), (30, 21, 0, 0, []), (4, 0, 0, 0, []), (3, 2, 0, 0, []), (70, 483, 0, 0, []), (42, 40, 0, 0, [])]
theorem h_X6_cost_0 : mj_ch 6 cX6_cost 0 k_X6_cost_0 21 = true := by decide +kernel
def k_X6_cost_21 : List mj_O := [(4, 0, 0, 0, []), (51, 6, 0, 0, []), (3, 1, 0, 0, []), (70, 504, 0, 0, []), (4, 0, 0, 0, []), (51, 6, 0, 0, []), (3, 1, 0, 0, []), (1, 0, 0, 1, []), (10, 0, 0, 0, []), (70, 504, 0, 0, []), (11, 0, 0, 0, [])]
theorem h_X6_cost_21 : mj_ch 6 cX6_cost 21 k_X6_cost_21 40 = true := by decide +kernel
def k_X6_cost_40 : List mj_O := [(80, 0, 0, 0, [])]
theorem h_X6_cost_40 : mj_ch 6 cX6_cost 40 k_X6_cost_40 41 = true := by decide +kernel
def k_X6_evening_0 : List mj_O := [(4, 0, 0, 0, []), (3, 1, 0, 0, []), (70, 291, 0, 0, []), (3, 2, 0, 0, []), (1, 0, 0, 4, []), (70, 245, 0, 0, []), (70, 257, 0, 0, []), (5, 3, 0, 0, []), (3, 3, 0, 0, []), (30, 24, 0, 0, []), (4, 0, 0, 0, []), (3, 3, 0, 0, []), (70, 483, 0, 0, []), (80, 0, 0, 0, [])]
theorem h_X6_evening_0 : mj_ch 6 cX6_evening 0 k_X6_evening_0 24 = true := by decide +kernel
def k_X6_evening_24 : List mj_O := [(3, 2, 0, 0, []), (1, 0, 0, 2, []), (14, 0, 0, 0, []), (1, 0, 0, 1, []), (37, 35, 0, 0, []), (1, 0, 0, 1, []), (42, 36, 0, 0, [])]
theorem h_X6_evening_24 : mj_ch 6 cX6_evening 24 k_X6_evening_24 35 = true := by decide +kernel
def k_X6_evening_35 : List mj_O := [(1, 0, 0, 0, [])]
theorem h_X6_evening_35 : mj_ch 6 cX6_evening 35 k_X6_evening_35 36 = true := by decide +kernel
def k_X6_evening_36 : List mj_O := [(5, 4, 0, 0, []), (3, 2, 0, 0, []), (1, 0, 0, 2, []), (39, 58, 0, 0, []), (4, 0, 0, 0, []), (3, 1, 0, 0, []), (1, 0, 0, 2, []), (1, 0, 0, 0, []), (1, 0, 0, 299, []), (3, 4, 0, 0, []), (70, 513, 0, 0, []), (42, 69, 0, 0, [])]
theorem h_X6_evening_36 : mj_ch 6 cX6_evening 36 k_X6_evening_36 58 = true := by decide +kernel
def k_X6_evening_58 : List mj_O := [(4, 0, 0, 0, []), (3, 1, 0, 0, []), (1, 0, 0, 3, []), (1, 0, 0, 1, []), (1, 0, 0, 20, []), (3, 4, 0, 0, []), (70, 513, 0, 0, [])]
theorem h_X6_evening_58 : mj_ch 6 cX6_evening 58 k_X6_evening_58 69 = true := by decide +kernel
def k_X6_evening_69 : List mj_O := [(80, 0, 0, 0, [])]
theorem h_X6_evening_69 : mj_ch 6 cX6_evening 69 k_X6_evening_69 70 = true := by decide +kernel
def k_X6_often_0 : List mj_O := [(4, 0, 0, 0, []), (3, 1, 0, 0, []), (70, 291, 0, 0, []), (3, 2, 0, 0, []), (1, 0, 0, 0, []), (1, 0, 0, 9, []), (70, 155, 0, 0, []), (70, 257, 0, 0, []), (5, 3, 0, 0, []), (3, 3, 0, 0, []), (30, 26, 0, 0, []), (4, 0, 0, 0, []), (3, 3, 0, 0, []), (70, 177, 0, 0, []), (80, 0, 0, 0, [])]
theorem h_X6_often_0 : mj_ch 6 cX6_often 0 k_X6_often_0 26 = true := by decide +kernel
def k_X6_often_26 : List mj_O := [(4, 0, 0, 0, []), (51, 6, 0, 0, []), (51, 2, 1, 0, []), (3, 1, 0, 0, []), (64, 0, 0, 0, []), (50, 0, 1, 0, []), (5, 4, 0, 0, []), (1, 0, 0, 0, []), (5, 5, 0, 0, []), (4, 0, 0, 0, []), (51, 6, 1, 0, []), (4, 0, 0, 0, []), (51, 6, 0, 0, []), (70, 201, 0, 0, []), (1, 0, 0, 0, []), (5, 6, 0, 0, [])]
theorem h_X6_often_26 : mj_ch 6 cX6_often 26 k_X6_often_26 57 = true := by decide +kernel
def k_X6_often_57 : List mj_O := [(3, 6, 0, 0, []), (1, 0, 0, 300, []), (39, 113, 0, 0, []), (4, 0, 0, 0, []), (51, 6, 1, 0, []), (51, 2, 1, 0, []), (3, 1, 0, 0, []), (64, 0, 0, 0, []), (3, 6, 0, 0, []), (52, 0, 2, 0, []), (4, 0, 0, 0, []), (51, 6, 4, 0, []), (4, 0, 0, 0, []), (51, 6, 1, 0, []), (3, 4, 0, 0, []), (1, 0, 0, (-1), []), (70, 396, 0, 0, []), (4, 0, 0, 0, []), (51, 6, 4, 0, []), (50, 1, 4, 0, []), (3, 2, 0, 0, []), (38, 107, 0, 0, []), (7, 5, 0, 1, [])]
theorem h_X6_often_57 : mj_ch 6 cX6_often 57 k_X6_often_57 107 = true := by decide +kernel
def k_X6_often_107 : List mj_O := [(7, 6, 0, 1, []), (42, 57, 0, 0, [])]
theorem h_X6_often_107 : mj_ch 6 cX6_often 107 k_X6_often_107 113 = true := by decide +kernel
def k_X6_often_113 : List mj_O := [(3, 5, 0, 0, []), (80, 0, 0, 0, [])]
theorem h_X6_often_113 : mj_ch 6 cX6_often 113 k_X6_often_113 116 = true := by decide +kernel
def k_X6_hears_0 : List mj_O := [(4, 0, 0, 0, []), (3, 1, 0, 0, []), (70, 234, 0, 0, []), (5, 2, 0, 0, []), (3, 2, 0, 0, []), (30, 18, 0, 0, []), (4, 0, 0, 0, []), (3, 2, 0, 0, []), (70, 177, 0, 0, []), (42, 27, 0, 0, [])]
theorem h_X6_hears_0 : mj_ch 6 cX6_hears 0 k_X6_hears_0 18 = true := by decide +kernel
def k_X6_hears_18 : List mj_O := [(4, 0, 0, 0, []), (4, 0, 0, 0, []), (51, 6, 0, 0, []), (3, 1, 0, 0, []), (70, 543, 0, 0, [])]
theorem h_X6_hears_18 : mj_ch 6 cX6_hears 18 k_X6_hears_18 27 = true := by decide +kernel
def k_X6_hears_27 : List mj_O := [(80, 0, 0, 0, [])]
theorem h_X6_hears_27 : mj_ch 6 cX6_hears 27 k_X6_hears_27 28 = true := by decide +kernel
def k_X6_silent_0 : List mj_O := [(4, 0, 0, 0, []), (3, 1, 0, 0, []), (70, 234, 0, 0, []), (5, 2, 0, 0, []), (3, 2, 0, 0, []), (30, 16, 0, 0, []), (4, 0, 0, 0, []), (3, 2, 0, 0, []), (70, 177, 0, 0, []), (80, 0, 0, 0, [])]
theorem h_X6_silent_0 : mj_ch 6 cX6_silent 0 k_X6_silent_0 16 = true := by decide +kernel
def k_X6_silent_16 : List mj_O := [(4, 0, 0, 0, []), (4, 0, 0, 0, []), (51, 6, 0, 0, []), (3, 1, 0, 0, []), (70, 543, 0, 0, []), (5, 3, 0, 0, []), (1, 0, 0, (-9), []), (5, 4, 0, 0, []), (1, 0, 0, 0, []), (5, 5, 0, 0, []), (4, 0, 0, 0, []), (51, 6, 1, 0, []), (4, 0, 0, 0, []), (51, 6, 0, 0, []), (70, 201, 0, 0, []), (1, 0, 0, 0, []), (5, 6, 0, 0, [])]
theorem h_X6_silent_16 : mj_ch 6 cX6_silent 16 k_X6_silent_16 47 = true := by decide +kernel
def k_X6_silent_47 : List mj_O := [(3, 6, 0, 0, []), (4, 0, 0, 0, []), (51, 6, 0, 0, []), (50, 2, 4, 0, []), (39, 152, 0, 0, []), (4, 0, 0, 0, []), (51, 6, 0, 0, []), (51, 2, 1, 0, []), (3, 6, 0, 0, []), (64, 0, 0, 0, []), (50, 0, 1, 0, []), (3, 1, 0, 0, []), (36, 146, 0, 0, []), (4, 0, 0, 0, []), (51, 6, 1, 0, []), (51, 2, 1, 0, []), (3, 6, 0, 0, []), (64, 0, 0, 0, []), (1, 0, 0, 300, []), (52, 0, 2, 0, []), (3, 3, 0, 0, []), (4, 0, 0, 0, []), (4, 0, 0, 0, []), (51, 6, 1, 0, []), (3, 1, 0, 0, []), (70, 543, 0, 0, []), (11, 0, 0, 0, []), (5, 7, 0, 0, []), (4, 0, 0, 0, []), (51, 6, 1, 0, []), (51, 2, 1, 0, []), (3, 6, 0, 0, []), (64, 0, 0, 0, []), (4, 0, 0, 0, []), (51, 6, 0, 0, []), (51, 2, 1, 0, []), (3, 6, 0, 0, []), (64, 0, 0, 0, []), (50, 0, 2, 0, []), (52, 0, 2, 0, []), (3, 7, 0, 0, []), (3, 5, 0, 0, []), (41, 146, 0, 0, []), (3, 7, 0, 0, []), (5, 5, 0, 0, []), (3, 6, 0, 0, []), (5, 4, 0, 0, [])]
theorem h_X6_silent_47 : mj_ch 6 cX6_silent 47 k_X6_silent_47 146 = true := by decide +kernel
def k_X6_silent_146 : List mj_O := [(7, 6, 0, 1, []), (42, 47, 0, 0, [])]
theorem h_X6_silent_146 : mj_ch 6 cX6_silent 146 k_X6_silent_146 152 = true := by decide +kernel
def k_X6_silent_152 : List mj_O := [(3, 4, 0, 0, []), (80, 0, 0, 0, [])]
theorem h_X6_silent_152 : mj_ch 6 cX6_silent 152 k_X6_silent_152 155 = true := by decide +kernel
def k_X6_bet_0 : List mj_O := [(4, 0, 0, 0, []), (3, 1, 0, 0, []), (70, 234, 0, 0, []), (5, 2, 0, 0, []), (3, 2, 0, 0, []), (30, 16, 0, 0, []), (4, 0, 0, 0, []), (3, 2, 0, 0, []), (70, 177, 0, 0, []), (80, 0, 0, 0, [])]
theorem h_X6_bet_0 : mj_ch 6 cX6_bet 0 k_X6_bet_0 16 = true := by decide +kernel
def k_X6_bet_16 : List mj_O := [(4, 0, 0, 0, []), (51, 6, 1, 0, []), (4, 0, 0, 0, []), (51, 6, 0, 0, []), (70, 201, 0, 0, []), (1, 0, 0, 0, []), (5, 3, 0, 0, [])]
theorem h_X6_bet_16 : mj_ch 6 cX6_bet 16 k_X6_bet_16 29 = true := by decide +kernel
def k_X6_bet_29 : List mj_O := [(3, 3, 0, 0, []), (1, 0, 0, 99, []), (40, 74, 0, 0, []), (4, 0, 0, 0, []), (51, 6, 1, 0, []), (3, 3, 0, 0, []), (52, 2, 7, 0, []), (4, 0, 0, 0, []), (51, 6, 4, 0, []), (4, 0, 0, 0, []), (51, 6, 1, 0, []), (3, 1, 0, 0, []), (1, 0, 0, (-1), []), (70, 396, 0, 0, []), (4, 0, 0, 0, []), (51, 6, 4, 0, []), (50, 1, 4, 0, []), (31, 68, 0, 0, []), (3, 3, 0, 0, []), (80, 0, 0, 0, [])]
theorem h_X6_bet_29 : mj_ch 6 cX6_bet 29 k_X6_bet_29 68 = true := by decide +kernel
def k_X6_bet_68 : List mj_O := [(7, 3, 0, 1, []), (42, 29, 0, 0, [])]
theorem h_X6_bet_68 : mj_ch 6 cX6_bet 68 k_X6_bet_68 74 = true := by decide +kernel
def k_X6_bet_74 : List mj_O := [(1, 0, 0, (-9), []), (80, 0, 0, 0, [])]
theorem h_X6_bet_74 : mj_ch 6 cX6_bet 74 k_X6_bet_74 77 = true := by decide +kernel
def k_X6_leans_0 : List mj_O := [(4, 0, 0, 0, []), (3, 1, 0, 0, []), (70, 234, 0, 0, []), (3, 2, 0, 0, []), (1, 0, 0, 0, []), (1, 0, 0, 300, []), (70, 155, 0, 0, []), (70, 257, 0, 0, []), (5, 3, 0, 0, []), (3, 3, 0, 0, []), (30, 27, 0, 0, []), (4, 0, 0, 0, []), (3, 3, 0, 0, []), (70, 177, 0, 0, []), (80, 0, 0, 0, [])]
theorem h_X6_leans_0 : mj_ch 6 cX6_leans 0 k_X6_leans_0 27 = true := by decide +kernel
def k_X6_leans_27 : List mj_O := [(1, 0, 0, 0, []), (5, 4, 0, 0, []), (4, 0, 0, 0, []), (51, 6, 1, 0, []), (4, 0, 0, 0, []), (51, 6, 0, 0, []), (70, 201, 0, 0, []), (1, 0, 0, 0, []), (5, 5, 0, 0, [])]
theorem h_X6_leans_27 : mj_ch 6 cX6_leans 27 k_X6_leans_27 44 = true := by decide +kernel
def k_X6_leans_44 : List mj_O := [(3, 5, 0, 0, []), (1, 0, 0, 30, []), (40, 104, 0, 0, []), (4, 0, 0, 0, []), (51, 6, 1, 0, []), (51, 2, 0, 0, []), (3, 1, 0, 0, []), (64, 0, 0, 0, []), (3, 5, 0, 0, []), (52, 3, 3, 0, []), (4, 0, 0, 0, []), (51, 6, 4, 0, []), (4, 0, 0, 0, []), (51, 6, 1, 0, []), (3, 1, 0, 0, []), (1, 0, 0, (-1), []), (70, 396, 0, 0, []), (4, 0, 0, 0, []), (51, 6, 4, 0, []), (50, 1, 3, 0, []), (3, 2, 0, 0, []), (37, 98, 0, 0, []), (3, 4, 0, 0, []), (1, 0, 0, 1, []), (3, 5, 0, 0, []), (16, 0, 0, 0, []), (19, 0, 0, 0, []), (5, 4, 0, 0, [])]
theorem h_X6_leans_44 : mj_ch 6 cX6_leans 44 k_X6_leans_44 98 = true := by decide +kernel
def k_X6_leans_98 : List mj_O := [(7, 5, 0, 1, []), (42, 44, 0, 0, [])]
theorem h_X6_leans_98 : mj_ch 6 cX6_leans 98 k_X6_leans_98 104 = true := by decide +kernel
def k_X6_leans_104 : List mj_O := [(3, 4, 0, 0, []), (80, 0, 0, 0, [])]
theorem h_X6_leans_104 : mj_ch 6 cX6_leans 104 k_X6_leans_104 107 = true := by decide +kernel
def k_X6_back_0 : List mj_O := [(4, 0, 0, 0, []), (3, 1, 0, 0, []), (70, 291, 0, 0, []), (3, 2, 0, 0, []), (1, 0, 0, 0, []), (1, 0, 0, 300, []), (70, 155, 0, 0, []), (70, 257, 0, 0, []), (5, 3, 0, 0, []), (3, 3, 0, 0, []), (30, 27, 0, 0, []), (4, 0, 0, 0, []), (3, 3, 0, 0, []), (70, 177, 0, 0, []), (80, 0, 0, 0, [])]
theorem h_X6_back_0 : mj_ch 6 cX6_back 0 k_X6_back_0 27 = true := by decide +kernel
def k_X6_back_27 : List mj_O := [(4, 0, 0, 0, []), (51, 6, 0, 0, []), (51, 2, 1, 0, []), (3, 1, 0, 0, []), (64, 0, 0, 0, []), (50, 0, 1, 0, []), (5, 4, 0, 0, []), (4, 0, 0, 0, []), (51, 6, 0, 0, []), (51, 2, 1, 0, []), (3, 1, 0, 0, []), (64, 0, 0, 0, []), (50, 0, 2, 0, []), (5, 5, 0, 0, []), (4, 0, 0, 0, []), (51, 6, 1, 0, []), (4, 0, 0, 0, []), (51, 6, 0, 0, []), (70, 201, 0, 0, []), (1, 0, 0, 0, []), (5, 6, 0, 0, [])]
theorem h_X6_back_27 : mj_ch 6 cX6_back 27 k_X6_back_27 69 = true := by decide +kernel
def k_X6_back_69 : List mj_O := [(3, 6, 0, 0, []), (1, 0, 0, 60, []), (40, 134, 0, 0, []), (3, 6, 0, 0, []), (3, 5, 0, 0, []), (40, 134, 0, 0, []), (4, 0, 0, 0, []), (51, 6, 1, 0, []), (51, 2, 1, 0, []), (3, 1, 0, 0, []), (64, 0, 0, 0, []), (3, 5, 0, 0, []), (3, 6, 0, 0, []), (11, 0, 0, 0, []), (52, 0, 2, 0, []), (4, 0, 0, 0, []), (51, 6, 4, 0, []), (4, 0, 0, 0, []), (51, 6, 1, 0, []), (3, 4, 0, 0, []), (1, 0, 0, (-1), []), (70, 396, 0, 0, []), (4, 0, 0, 0, []), (51, 6, 4, 0, []), (50, 1, 3, 0, []), (3, 2, 0, 0, []), (37, 128, 0, 0, []), (3, 6, 0, 0, []), (80, 0, 0, 0, [])]
theorem h_X6_back_69 : mj_ch 6 cX6_back 69 k_X6_back_69 128 = true := by decide +kernel
def k_X6_back_128 : List mj_O := [(7, 6, 0, 1, []), (42, 69, 0, 0, [])]
theorem h_X6_back_128 : mj_ch 6 cX6_back 128 k_X6_back_128 134 = true := by decide +kernel
def k_X6_back_134 : List mj_O := [(1, 0, 0, (-9), []), (80, 0, 0, 0, [])]
theorem h_X6_back_134 : mj_ch 6 cX6_back 134 k_X6_back_134 137 = true := by decide +kernel
def k_X6_moment_0 : List mj_O := [(4, 0, 0, 0, []), (3, 1, 0, 0, []), (70, 234, 0, 0, []), (5, 4, 0, 0, []), (3, 4, 0, 0, []), (31, 25, 0, 0, []), (3, 2, 0, 0, []), (32, 21, 0, 0, []), (3, 3, 0, 0, []), (1, 0, 0, 1, []), (39, 25, 0, 0, [])]
theorem h_X6_moment_0 : mj_ch 6 cX6_moment 0 k_X6_moment_0 21 = true := by decide +kernel
def k_X6_moment_21 : List mj_O := [(1, 0, 0, (-4), []), (5, 4, 0, 0, [])]
theorem h_X6_moment_21 : mj_ch 6 cX6_moment 21 k_X6_moment_21 25 = true := by decide +kernel
def k_X6_moment_25 : List mj_O := [(3, 4, 0, 0, []), (31, 49, 0, 0, []), (3, 3, 0, 0, []), (1, 0, 0, 30, []), (40, 45, 0, 0, []), (3, 2, 0, 0, []), (1, 0, 0, 300, []), (3, 3, 0, 0, []), (11, 0, 0, 0, []), (41, 49, 0, 0, [])]
theorem h_X6_moment_25 : mj_ch 6 cX6_moment 25 k_X6_moment_25 45 = true := by decide +kernel
def k_X6_moment_45 : List mj_O := [(1, 0, 0, (-6), []), (5, 4, 0, 0, [])]
theorem h_X6_moment_45 : mj_ch 6 cX6_moment 45 k_X6_moment_45 49 = true := by decide +kernel
def k_X6_moment_49 : List mj_O := [(3, 4, 0, 0, []), (30, 61, 0, 0, []), (4, 0, 0, 0, []), (3, 4, 0, 0, []), (70, 177, 0, 0, []), (80, 0, 0, 0, [])]
theorem h_X6_moment_49 : mj_ch 6 cX6_moment 49 k_X6_moment_49 61 = true := by decide +kernel
def k_X6_moment_61 : List mj_O := [(3, 2, 0, 0, []), (5, 5, 0, 0, []), (1, 0, 0, 1, []), (5, 6, 0, 0, [])]
theorem h_X6_moment_61 : mj_ch 6 cX6_moment 61 k_X6_moment_61 67 = true := by decide +kernel
def k_X6_moment_67 : List mj_O := [(3, 6, 0, 0, []), (3, 3, 0, 0, []), (39, 110, 0, 0, []), (4, 0, 0, 0, []), (51, 6, 0, 0, []), (3, 1, 0, 0, []), (3, 2, 0, 0, []), (3, 6, 0, 0, []), (10, 0, 0, 0, []), (70, 438, 0, 0, []), (4, 0, 0, 0, []), (51, 6, 0, 0, []), (3, 1, 0, 0, []), (3, 5, 0, 0, []), (70, 438, 0, 0, []), (39, 104, 0, 0, []), (3, 2, 0, 0, []), (3, 6, 0, 0, []), (10, 0, 0, 0, []), (5, 5, 0, 0, [])]
theorem h_X6_moment_67 : mj_ch 6 cX6_moment 67 k_X6_moment_67 104 = true := by decide +kernel
def k_X6_moment_104 : List mj_O := [(7, 6, 0, 1, []), (42, 67, 0, 0, [])]
theorem h_X6_moment_104 : mj_ch 6 cX6_moment 104 k_X6_moment_104 110 = true := by decide +kernel
def k_X6_moment_110 : List mj_O := [(3, 5, 0, 0, []), (80, 0, 0, 0, [])]
theorem h_X6_moment_110 : mj_ch 6 cX6_moment 110 k_X6_moment_110 113 = true := by decide +kernel
def k_X6_week_0 : List mj_O := [(4, 0, 0, 0, []), (3, 1, 0, 0, []), (70, 234, 0, 0, []), (5, 4, 0, 0, []), (3, 2, 0, 0, []), (4, 0, 0, 0, []), (51, 6, 0, 0, []), (50, 2, 9, 0, []), (38, 24, 0, 0, []), (3, 2, 0, 0, []), (1, 0, 0, 6, []), (41, 27, 0, 0, [])]
theorem h_X6_week_0 : mj_ch 6 cX6_week 0 k_X6_week_0 24 = true := by decide +kernel
def k_X6_week_24 : List mj_O := [(1, 0, 0, (-1), []), (5, 4, 0, 0, [])]
theorem h_X6_week_24 : mj_ch 6 cX6_week 24 k_X6_week_24 27 = true := by decide +kernel
def k_X6_week_27 : List mj_O := [(3, 4, 0, 0, []), (3, 3, 0, 0, []), (1, 0, 0, 3, []), (70, 245, 0, 0, []), (70, 257, 0, 0, []), (5, 4, 0, 0, []), (3, 4, 0, 0, []), (30, 51, 0, 0, []), (4, 0, 0, 0, []), (3, 4, 0, 0, []), (70, 177, 0, 0, []), (80, 0, 0, 0, [])]
theorem h_X6_week_27 : mj_ch 6 cX6_week 27 k_X6_week_27 51 = true := by decide +kernel
def k_X6_week_51 : List mj_O := [(1, 0, 0, 0, []), (5, 5, 0, 0, []), (4, 0, 0, 0, []), (51, 6, 1, 0, []), (4, 0, 0, 0, []), (51, 6, 0, 0, []), (70, 201, 0, 0, []), (4, 0, 0, 0, []), (51, 6, 0, 0, []), (50, 2, 9, 0, []), (5, 6, 0, 0, [])]
theorem h_X6_week_51 : mj_ch 6 cX6_week 51 k_X6_week_51 74 = true := by decide +kernel
def k_X6_week_74 : List mj_O := [(3, 6, 0, 0, []), (3, 2, 0, 0, []), (40, 125, 0, 0, []), (4, 0, 0, 0, []), (51, 6, 4, 0, []), (4, 0, 0, 0, []), (51, 6, 1, 0, []), (3, 1, 0, 0, []), (1, 0, 0, (-1), []), (70, 396, 0, 0, []), (4, 0, 0, 0, []), (51, 6, 1, 0, []), (4, 0, 0, 0, []), (51, 6, 4, 0, []), (50, 1, 4, 0, []), (70, 417, 0, 0, []), (3, 5, 0, 0, []), (4, 0, 0, 0, []), (51, 6, 4, 0, []), (50, 1, 4, 0, []), (10, 0, 0, 0, []), (5, 5, 0, 0, []), (7, 6, 0, 1, []), (42, 74, 0, 0, [])]
theorem h_X6_week_74 : mj_ch 6 cX6_week 74 k_X6_week_74 125 = true := by decide +kernel
def k_X6_week_125 : List mj_O := [(3, 3, 0, 0, []), (31, 137, 0, 0, []), (4, 0, 0, 0, []), (51, 6, 4, 0, []), (50, 1, 4, 0, []), (80, 0, 0, 0, [])]
theorem h_X6_week_125 : mj_ch 6 cX6_week 125 k_X6_week_125 137 = true := by decide +kernel
def k_X6_week_137 : List mj_O := [(3, 3, 0, 0, []), (1, 0, 0, 1, []), (37, 147, 0, 0, []), (3, 5, 0, 0, []), (42, 154, 0, 0, [])]
theorem h_X6_week_137 : mj_ch 6 cX6_week 137 k_X6_week_137 147 = true := by decide +kernel
def k_X6_week_147 : List mj_O := [(4, 0, 0, 0, []), (51, 6, 1, 0, []), (50, 2, 8, 0, [])]
theorem h_X6_week_147 : mj_ch 6 cX6_week 147 k_X6_week_147 154 = true := by decide +kernel
def k_X6_week_154 : List mj_O := [(80, 0, 0, 0, [])]
theorem h_X6_week_154 : mj_ch 6 cX6_week 154 k_X6_week_154 155 = true := by decide +kernel
def k_X6_row_0 : List mj_O := [(3, 1, 0, 0, []), (1, 0, 0, 0, []), (1, 0, 0, 300, []), (70, 155, 0, 0, []), (5, 2, 0, 0, []), (3, 2, 0, 0, []), (31, 28, 0, 0, []), (4, 0, 0, 0, []), (50, 6, 7, 0, []), (4, 0, 0, 0, []), (51, 6, 6, 0, []), (65, 0, 0, 0, []), (38, 28, 0, 0, []), (1, 0, 0, (-6), []), (5, 2, 0, 0, [])]
theorem h_X6_row_0 : mj_ch 6 cX6_row 0 k_X6_row_0 28 = true := by decide +kernel
def k_X6_row_28 : List mj_O := [(3, 2, 0, 0, []), (30, 38, 0, 0, []), (4, 0, 0, 0, []), (3, 2, 0, 0, []), (70, 177, 0, 0, []), (80, 0, 0, 0, [])]
theorem h_X6_row_28 : mj_ch 6 cX6_row 28 k_X6_row_28 38 = true := by decide +kernel
def k_X6_row_38 : List mj_O := [(4, 0, 0, 0, []), (51, 6, 6, 0, []), (4, 0, 0, 0, []), (50, 6, 7, 0, []), (3, 1, 0, 0, []), (61, 0, 0, 0, []), (4, 0, 0, 0, []), (21, 0, 0, 0, []), (50, 6, 7, 0, []), (1, 0, 0, 1, []), (10, 0, 0, 0, []), (52, 6, 7, 0, []), (4, 0, 0, 0, []), (50, 6, 7, 0, []), (80, 0, 0, 0, [])]
theorem h_X6_row_38 : mj_ch 6 cX6_row 38 k_X6_row_38 63 = true := by decide +kernel
def k_X6_judge_0 : List mj_O := [(4, 0, 0, 0, []), (3, 1, 0, 0, []), (70, 234, 0, 0, []), (5, 2, 0, 0, []), (3, 2, 0, 0, []), (30, 16, 0, 0, []), (4, 0, 0, 0, []), (3, 2, 0, 0, []), (70, 177, 0, 0, []), (80, 0, 0, 0, [])]
theorem h_X6_judge_0 : mj_ch 6 cX6_judge 0 k_X6_judge_0 16 = true := by decide +kernel
def k_X6_judge_16 : List mj_O := [(4, 0, 0, 0, []), (51, 6, 1, 0, []), (4, 0, 0, 0, []), (51, 6, 0, 0, []), (70, 201, 0, 0, []), (4, 0, 0, 0, []), (3, 1, 0, 0, []), (70, 570, 0, 0, []), (80, 0, 0, 0, [])]
theorem h_X6_judge_16 : mj_ch 6 cX6_judge 16 k_X6_judge_16 33 = true := by decide +kernel
def k_X6_firms_0 : List mj_O := [(4, 0, 0, 0, []), (3, 1, 0, 0, []), (70, 234, 0, 0, []), (3, 2, 0, 0, []), (1, 0, 0, 2, []), (70, 245, 0, 0, []), (70, 257, 0, 0, []), (5, 3, 0, 0, []), (3, 3, 0, 0, []), (30, 24, 0, 0, []), (4, 0, 0, 0, []), (3, 3, 0, 0, []), (70, 177, 0, 0, []), (80, 0, 0, 0, [])]
theorem h_X6_firms_0 : mj_ch 6 cX6_firms 0 k_X6_firms_0 24 = true := by decide +kernel
def k_X6_firms_24 : List mj_O := [(1, 0, 0, 0, []), (5, 4, 0, 0, []), (1, 0, 0, (-9), []), (5, 5, 0, 0, []), (4, 0, 0, 0, []), (51, 6, 1, 0, []), (4, 0, 0, 0, []), (51, 6, 0, 0, []), (70, 201, 0, 0, []), (1, 0, 0, 99, []), (5, 6, 0, 0, [])]
theorem h_X6_firms_24 : mj_ch 6 cX6_firms 24 k_X6_firms_24 46 = true := by decide +kernel
def k_X6_firms_46 : List mj_O := [(3, 6, 0, 0, []), (32, 83, 0, 0, []), (4, 0, 0, 0, []), (51, 6, 1, 0, []), (3, 6, 0, 0, []), (52, 2, 7, 0, []), (4, 0, 0, 0, []), (3, 1, 0, 0, []), (70, 570, 0, 0, []), (1, 0, 0, (-9), []), (37, 77, 0, 0, []), (7, 4, 0, 1, []), (3, 6, 0, 0, []), (5, 5, 0, 0, [])]
theorem h_X6_firms_46 : mj_ch 6 cX6_firms 46 k_X6_firms_46 77 = true := by decide +kernel
def k_X6_firms_77 : List mj_O := [(7, 6, 0, (-1), []), (42, 46, 0, 0, [])]
theorem h_X6_firms_77 : mj_ch 6 cX6_firms 77 k_X6_firms_77 83 = true := by decide +kernel
def k_X6_firms_83 : List mj_O := [(3, 2, 0, 0, []), (31, 92, 0, 0, []), (3, 4, 0, 0, []), (42, 94, 0, 0, [])]
theorem h_X6_firms_83 : mj_ch 6 cX6_firms 83 k_X6_firms_83 92 = true := by decide +kernel
def k_X6_firms_92 : List mj_O := [(3, 5, 0, 0, [])]
theorem h_X6_firms_92 : mj_ch 6 cX6_firms 92 k_X6_firms_92 94 = true := by decide +kernel
def k_X6_firms_94 : List mj_O := [(80, 0, 0, 0, [])]
theorem h_X6_firms_94 : mj_ch 6 cX6_firms 94 k_X6_firms_94 95 = true := by decide +kernel
def k_X6_clear_0 : List mj_O := [(4, 0, 0, 0, []), (50, 6, 7, 0, []), (5, 1, 0, 0, []), (4, 0, 0, 0, []), (1, 0, 0, 0, []), (52, 6, 7, 0, []), (3, 1, 0, 0, []), (80, 0, 0, 0, [])]
theorem h_X6_clear_0 : mj_ch 6 cX6_clear 0 k_X6_clear_0 12 = true := by decide +kernel
def k_X6_lots_0 : List mj_O := [(4, 0, 0, 0, []), (3, 1, 0, 0, []), (70, 234, 0, 0, []), (3, 2, 0, 0, []), (1, 0, 0, 1, []), (1, 0, 0, 30, []), (70, 155, 0, 0, []), (70, 257, 0, 0, []), (5, 4, 0, 0, []), (3, 4, 0, 0, []), (30, 29, 0, 0, []), (4, 0, 0, 0, []), (3, 4, 0, 0, []), (70, 177, 0, 0, []), (80, 0, 0, 0, [])]
theorem h_X6_lots_0 : mj_ch 6 cX6_lots 0 k_X6_lots_0 29 = true := by decide +kernel
def k_X6_lots_29 : List mj_O := [(3, 3, 0, 0, []), (5, 5, 0, 0, []), (1, 0, 0, 0, []), (5, 6, 0, 0, []), (4, 0, 0, 0, []), (51, 6, 1, 0, []), (4, 0, 0, 0, []), (51, 6, 0, 0, []), (70, 201, 0, 0, []), (1, 0, 0, 0, []), (5, 7, 0, 0, [])]
theorem h_X6_lots_29 : mj_ch 6 cX6_lots 29 k_X6_lots_29 49 = true := by decide +kernel
def k_X6_lots_49 : List mj_O := [(3, 7, 0, 0, []), (3, 2, 0, 0, []), (39, 95, 0, 0, []), (4, 0, 0, 0, []), (3, 1, 0, 0, []), (3, 5, 0, 0, []), (70, 579, 0, 0, []), (5, 5, 0, 0, []), (4, 0, 0, 0, []), (51, 6, 4, 0, []), (4, 0, 0, 0, []), (51, 6, 1, 0, []), (3, 1, 0, 0, []), (1, 0, 0, (-1), []), (70, 396, 0, 0, []), (3, 6, 0, 0, []), (4, 0, 0, 0, []), (51, 6, 4, 0, []), (50, 1, 4, 0, []), (10, 0, 0, 0, []), (5, 6, 0, 0, []), (7, 7, 0, 1, []), (42, 49, 0, 0, [])]
theorem h_X6_lots_49 : mj_ch 6 cX6_lots 49 k_X6_lots_49 95 = true := by decide +kernel
def k_X6_lots_95 : List mj_O := [(3, 6, 0, 0, []), (80, 0, 0, 0, [])]
theorem h_X6_lots_95 : mj_ch 6 cX6_lots 95 k_X6_lots_95 98 = true := by decide +kernel
def k_X6_image_0 : List mj_O := [(4, 0, 0, 0, []), (51, 6, 2, 0, []), (4, 0, 0, 0, []), (51, 6, 0, 0, []), (70, 201, 0, 0, []), (4, 0, 0, 0, []), (1, 0, 0, 1, []), (53, 6, 3, 0, []), (4, 0, 0, 0, []), (51, 6, 0, 0, []), (50, 2, 9, 0, []), (80, 0, 0, 0, [])]
theorem h_X6_image_0 : mj_ch 6 cX6_image 0 k_X6_image_0 24 = true := by decide +kernel
def k_X6_on_0 : List mj_O := [(4, 0, 0, 0, []), (50, 6, 3, 0, []), (31, 14, 0, 0, []), (4, 0, 0, 0, []), (1, 0, 0, (-3), []), (70, 177, 0, 0, []), (80, 0, 0, 0, [])]
theorem h_X6_on_0 : mj_ch 6 cX6_on 0 k_X6_on_0 14 = true := by decide +kernel
def k_X6_on_14 : List mj_O := [(4, 0, 0, 0, []), (51, 6, 0, 0, []), (4, 0, 0, 0, []), (51, 6, 2, 0, []), (70, 201, 0, 0, []), (4, 0, 0, 0, []), (51, 6, 0, 0, []), (50, 2, 9, 0, []), (80, 0, 0, 0, [])]
theorem h_X6_on_14 : mj_ch 6 cX6_on 14 k_X6_on_14 33 = true := by decide +kernel
def k_X6_count_0 : List mj_O := [(3, 1, 0, 0, []), (43, 136, 0, 0, [(0, 56), (1, 64), (2, 72), (3, 80), (4, 91), (5, 99), (6, 107), (7, 115), (8, 123), (9, 128)])]
theorem h_X6_count_0 : mj_ch 6 cX6_count 0 k_X6_count_0 56 = true := by decide +kernel
def k_X6_count_56 : List mj_O := [(4, 0, 0, 0, []), (51, 6, 0, 0, []), (50, 2, 3, 0, []), (80, 0, 0, 0, [])]
theorem h_X6_count_56 : mj_ch 6 cX6_count 56 k_X6_count_56 64 = true := by decide +kernel
def k_X6_count_64 : List mj_O := [(4, 0, 0, 0, []), (51, 6, 0, 0, []), (50, 2, 4, 0, []), (80, 0, 0, 0, [])]
theorem h_X6_count_64 : mj_ch 6 cX6_count 64 k_X6_count_64 72 = true := by decide +kernel
def k_X6_count_72 : List mj_O := [(4, 0, 0, 0, []), (51, 6, 0, 0, []), (50, 2, 5, 0, []), (80, 0, 0, 0, [])]
theorem h_X6_count_72 : mj_ch 6 cX6_count 72 k_X6_count_72 80 = true := by decide +kernel
def k_X6_count_80 : List mj_O := [(4, 0, 0, 0, []), (51, 6, 0, 0, []), (1, 0, 0, 63, []), (1, 0, 0, 0, []), (70, 474, 0, 0, []), (80, 0, 0, 0, [])]
theorem h_X6_count_80 : mj_ch 6 cX6_count 80 k_X6_count_80 91 = true := by decide +kernel
def k_X6_count_91 : List mj_O := [(4, 0, 0, 0, []), (51, 6, 0, 0, []), (50, 2, 6, 0, []), (80, 0, 0, 0, [])]
theorem h_X6_count_91 : mj_ch 6 cX6_count 91 k_X6_count_91 99 = true := by decide +kernel
def k_X6_count_99 : List mj_O := [(4, 0, 0, 0, []), (51, 6, 0, 0, []), (50, 2, 7, 0, []), (80, 0, 0, 0, [])]
theorem h_X6_count_99 : mj_ch 6 cX6_count 99 k_X6_count_99 107 = true := by decide +kernel
def k_X6_count_107 : List mj_O := [(4, 0, 0, 0, []), (51, 6, 0, 0, []), (50, 2, 8, 0, []), (80, 0, 0, 0, [])]
theorem h_X6_count_107 : mj_ch 6 cX6_count 107 k_X6_count_107 115 = true := by decide +kernel
def k_X6_count_115 : List mj_O := [(4, 0, 0, 0, []), (51, 6, 0, 0, []), (50, 2, 9, 0, []), (80, 0, 0, 0, [])]
theorem h_X6_count_115 : mj_ch 6 cX6_count 115 k_X6_count_115 123 = true := by decide +kernel
def k_X6_count_123 : List mj_O := [(4, 0, 0, 0, []), (50, 6, 7, 0, []), (80, 0, 0, 0, [])]
theorem h_X6_count_123 : mj_ch 6 cX6_count 123 k_X6_count_123 128 = true := by decide +kernel
def k_X6_count_128 : List mj_O := [(4, 0, 0, 0, []), (51, 6, 5, 0, []), (50, 5, 1, 0, []), (80, 0, 0, 0, [])]
theorem h_X6_count_128 : mj_ch 6 cX6_count 128 k_X6_count_128 136 = true := by decide +kernel
def k_X6_count_136 : List mj_O := [(4, 0, 0, 0, []), (3, 1, 0, 0, []), (70, 606, 0, 0, []), (80, 0, 0, 0, [])]
theorem h_X6_count_136 : mj_ch 6 cX6_count 136 k_X6_count_136 142 = true := by decide +kernel
def k_X6_refusalsOf_0 : List mj_O := [(3, 1, 0, 0, []), (1, 0, 0, 10, []), (41, 12, 0, 0, []), (3, 1, 0, 0, []), (1, 0, 0, 16, []), (41, 15, 0, 0, [])]
theorem h_X6_refusalsOf_0 : mj_ch 6 cX6_refusalsOf 0 k_X6_refusalsOf_0 12 = true := by decide +kernel
def k_X6_refusalsOf_12 : List mj_O := [(1, 0, 0, (-9), []), (80, 0, 0, 0, [])]
theorem h_X6_refusalsOf_12 : mj_ch 6 cX6_refusalsOf 12 k_X6_refusalsOf_12 15 = true := by decide +kernel
def k_X6_refusalsOf_15 : List mj_O := [(4, 0, 0, 0, []), (51, 6, 8, 0, []), (3, 1, 0, 0, []), (1, 0, 0, 10, []), (11, 0, 0, 0, []), (60, 0, 0, 0, []), (80, 0, 0, 0, [])]
theorem h_X6_refusalsOf_15 : mj_ch 6 cX6_refusalsOf 15 k_X6_refusalsOf_15 25 = true := by decide +kernel
def k_X6_refuse_0 : List mj_O := [(3, 1, 0, 0, []), (33, 21, 0, 0, []), (3, 1, 0, 0, []), (1, 0, 0, (-6), []), (38, 21, 0, 0, []), (4, 0, 0, 0, []), (51, 6, 8, 0, []), (3, 1, 0, 0, []), (15, 0, 0, 0, []), (22, 0, 0, 0, []), (60, 0, 0, 0, []), (1, 0, 0, 1, []), (10, 0, 0, 0, []), (61, 0, 0, 0, [])]
theorem h_X6_refuse_0 : mj_ch 6 cX6_refuse 0 k_X6_refuse_0 21 = true := by decide +kernel
def k_X6_refuse_21 : List mj_O := [(3, 1, 0, 0, []), (80, 0, 0, 0, [])]
theorem h_X6_refuse_21 : mj_ch 6 cX6_refuse 21 k_X6_refuse_21 23 = true := by decide +kernel
def k_X6_refuseValue_0 : List mj_O := [(1, 0, 0, 1000000000, []), (4, 0, 0, 0, []), (3, 1, 0, 0, []), (70, 177, 0, 0, []), (11, 0, 0, 0, []), (80, 0, 0, 0, [])]
theorem h_X6_refuseValue_0 : mj_ch 6 cX6_refuseValue 0 k_X6_refuseValue_0 9 = true := by decide +kernel
def k_X6_first_0 : List mj_O := [(3, 0, 0, 0, []), (30, 8, 0, 0, []), (3, 0, 0, 0, []), (42, 9, 0, 0, [])]
theorem h_X6_first_0 : mj_ch 6 cX6_first 0 k_X6_first_0 8 = true := by decide +kernel
def k_X6_first_8 : List mj_O := [(3, 1, 0, 0, [])]
theorem h_X6_first_8 : mj_ch 6 cX6_first 8 k_X6_first_8 9 = true := by decide +kernel
def k_X6_first_9 : List mj_O := [(80, 0, 0, 0, [])]
theorem h_X6_first_9 : mj_ch 6 cX6_first 9 k_X6_first_9 10 = true := by decide +kernel
def k_X6_outside_0 : List mj_O := [(3, 0, 0, 0, []), (3, 1, 0, 0, []), (39, 8, 0, 0, []), (1, 0, 0, (-4), []), (80, 0, 0, 0, [])]
theorem h_X6_outside_0 : mj_ch 6 cX6_outside 0 k_X6_outside_0 8 = true := by decide +kernel
def k_X6_outside_8 : List mj_O := [(3, 0, 0, 0, []), (3, 2, 0, 0, []), (41, 18, 0, 0, []), (1, 0, 0, (-6), []), (42, 19, 0, 0, [])]
theorem h_X6_outside_8 : mj_ch 6 cX6_outside 8 k_X6_outside_8 18 = true := by decide +kernel
def k_X6_outside_18 : List mj_O := [(1, 0, 0, 0, [])]
theorem h_X6_outside_18 : mj_ch 6 cX6_outside 18 k_X6_outside_18 19 = true := by decide +kernel
def k_X6_outside_19 : List mj_O := [(80, 0, 0, 0, [])]
theorem h_X6_outside_19 : mj_ch 6 cX6_outside 19 k_X6_outside_19 20 = true := by decide +kernel
def k_X6_otherThan_0 : List mj_O := [(3, 0, 0, 0, []), (32, 9, 0, 0, []), (3, 0, 0, 0, []), (3, 1, 0, 0, []), (38, 14, 0, 0, [])]
theorem h_X6_otherThan_0 : mj_ch 6 cX6_otherThan 0 k_X6_otherThan_0 9 = true := by decide +kernel
def k_X6_otherThan_9 : List mj_O := [(1, 0, 0, (-2), []), (42, 15, 0, 0, [])]
theorem h_X6_otherThan_9 : mj_ch 6 cX6_otherThan 9 k_X6_otherThan_9 14 = true := by decide +kernel
def k_X6_otherThan_14 : List mj_O := [(1, 0, 0, 0, [])]
theorem h_X6_otherThan_14 : mj_ch 6 cX6_otherThan 14 k_X6_otherThan_14 15 = true := by decide +kernel
def k_X6_otherThan_15 : List mj_O := [(80, 0, 0, 0, [])]
theorem h_X6_otherThan_15 : mj_ch 6 cX6_otherThan 15 k_X6_otherThan_15 16 = true := by decide +kernel
def k_X6_noSleeper_0 : List mj_O := [(3, 1, 0, 0, []), (32, 15, 0, 0, []), (3, 1, 0, 0, []), (4, 0, 0, 0, []), (51, 6, 0, 0, []), (50, 2, 3, 0, []), (38, 19, 0, 0, [])]
theorem h_X6_noSleeper_0 : mj_ch 6 cX6_noSleeper 0 k_X6_noSleeper_0 15 = true := by decide +kernel
def k_X6_noSleeper_15 : List mj_O := [(1, 0, 0, (-1), []), (42, 20, 0, 0, [])]
theorem h_X6_noSleeper_15 : mj_ch 6 cX6_noSleeper 15 k_X6_noSleeper_15 19 = true := by decide +kernel
def k_X6_noSleeper_19 : List mj_O := [(1, 0, 0, 0, [])]
theorem h_X6_noSleeper_19 : mj_ch 6 cX6_noSleeper 19 k_X6_noSleeper_19 20 = true := by decide +kernel
def k_X6_noSleeper_20 : List mj_O := [(80, 0, 0, 0, [])]
theorem h_X6_noSleeper_20 : mj_ch 6 cX6_noSleeper 20 k_X6_noSleeper_20 21 = true := by decide +kernel
def k_X6_noClock_0 : List mj_O := [(3, 1, 0, 0, []), (32, 15, 0, 0, []), (3, 1, 0, 0, []), (4, 0, 0, 0, []), (51, 6, 0, 0, []), (50, 2, 4, 0, []), (38, 19, 0, 0, [])]
theorem h_X6_noClock_0 : mj_ch 6 cX6_noClock 0 k_X6_noClock_0 15 = true := by decide +kernel
def k_X6_noClock_15 : List mj_O := [(1, 0, 0, (-1), []), (42, 20, 0, 0, [])]
theorem h_X6_noClock_15 : mj_ch 6 cX6_noClock 15 k_X6_noClock_15 19 = true := by decide +kernel
def k_X6_noClock_19 : List mj_O := [(1, 0, 0, 0, [])]
theorem h_X6_noClock_19 : mj_ch 6 cX6_noClock 19 k_X6_noClock_19 20 = true := by decide +kernel
def k_X6_noClock_20 : List mj_O := [(80, 0, 0, 0, [])]
theorem h_X6_noClock_20 : mj_ch 6 cX6_noClock 20 k_X6_noClock_20 21 = true := by decide +kernel
def k_X6_noTask_0 : List mj_O := [(3, 1, 0, 0, []), (32, 15, 0, 0, []), (3, 1, 0, 0, []), (4, 0, 0, 0, []), (51, 6, 0, 0, []), (50, 2, 5, 0, []), (38, 19, 0, 0, [])]
theorem h_X6_noTask_0 : mj_ch 6 cX6_noTask 0 k_X6_noTask_0 15 = true := by decide +kernel
def k_X6_noTask_15 : List mj_O := [(1, 0, 0, (-1), []), (42, 20, 0, 0, [])]
theorem h_X6_noTask_15 : mj_ch 6 cX6_noTask 15 k_X6_noTask_15 19 = true := by decide +kernel
def k_X6_noTask_19 : List mj_O := [(1, 0, 0, 0, [])]
theorem h_X6_noTask_19 : mj_ch 6 cX6_noTask 19 k_X6_noTask_19 20 = true := by decide +kernel
def k_X6_noTask_20 : List mj_O := [(80, 0, 0, 0, [])]
theorem h_X6_noTask_20 : mj_ch 6 cX6_noTask 20 k_X6_noTask_20 21 = true := by decide +kernel
def k_X6_valueOf_0 : List mj_O := [(4, 0, 0, 0, []), (51, 6, 4, 0, []), (4, 1, 0, 0, []), (3, 2, 0, 0, []), (1, 0, 0, (-1), []), (70, 396, 0, 0, []), (4, 0, 0, 0, []), (51, 6, 4, 0, []), (50, 1, 3, 0, []), (5, 3, 0, 0, []), (4, 1, 0, 0, []), (3, 3, 0, 0, []), (70, 504, 0, 0, []), (3, 3, 0, 0, []), (1, 0, 0, 10, []), (13, 0, 0, 0, []), (10, 0, 0, 0, []), (1, 0, 0, 5, []), (4, 0, 0, 0, []), (51, 6, 4, 0, []), (50, 1, 4, 0, []), (12, 0, 0, 0, []), (11, 0, 0, 0, []), (5, 4, 0, 0, []), (3, 3, 0, 0, []), (1, 0, 0, 300, []), (36, 58, 0, 0, []), (3, 4, 0, 0, []), (4, 1, 0, 0, []), (3, 2, 0, 0, []), (3, 3, 0, 0, []), (70, 438, 0, 0, []), (11, 0, 0, 0, []), (5, 4, 0, 0, [])]
theorem h_X6_valueOf_0 : mj_ch 6 cX6_valueOf 0 k_X6_valueOf_0 58 = true := by decide +kernel
def k_X6_valueOf_58 : List mj_O := [(3, 3, 0, 0, []), (4, 1, 0, 0, []), (50, 2, 6, 0, []), (41, 69, 0, 0, []), (7, 4, 0, (-50), [])]
theorem h_X6_valueOf_58 : mj_ch 6 cX6_valueOf 58 k_X6_valueOf_58 69 = true := by decide +kernel
def k_X6_valueOf_69 : List mj_O := [(3, 4, 0, 0, []), (80, 0, 0, 0, [])]
theorem h_X6_valueOf_69 : mj_ch 6 cX6_valueOf 69 k_X6_valueOf_69 72 = true := by decide +kernel
def k_X6_bestOf_0 : List mj_O := [(4, 0, 0, 0, []), (51, 6, 0, 0, []), (51, 2, 1, 0, []), (3, 1, 0, 0, []), (64, 0, 0, 0, []), (50, 0, 1, 0, []), (5, 6, 0, 0, []), (3, 3, 0, 0, []), (5, 7, 0, 0, []), (1, 0, 0, 0, []), (5, 8, 0, 0, []), (4, 0, 0, 0, []), (51, 6, 1, 0, []), (4, 0, 0, 0, []), (51, 6, 0, 0, []), (70, 201, 0, 0, []), (3, 3, 0, 0, []), (5, 9, 0, 0, [])]
theorem h_X6_bestOf_0 : mj_ch 6 cX6_bestOf 0 k_X6_bestOf_0 34 = true := by decide +kernel
def k_X6_bestOf_34 : List mj_O := [(3, 9, 0, 0, []), (3, 4, 0, 0, []), (40, 96, 0, 0, []), (4, 0, 0, 0, []), (51, 6, 1, 0, []), (51, 2, 1, 0, []), (3, 1, 0, 0, []), (64, 0, 0, 0, []), (3, 2, 0, 0, []), (3, 9, 0, 0, []), (70, 351, 0, 0, []), (23, 0, 0, 0, []), (4, 0, 0, 0, []), (4, 0, 0, 0, []), (51, 6, 1, 0, []), (3, 6, 0, 0, []), (70, 492, 0, 0, []), (5, 10, 0, 0, []), (3, 9, 0, 0, []), (3, 3, 0, 0, []), (36, 82, 0, 0, []), (3, 10, 0, 0, []), (3, 8, 0, 0, []), (41, 90, 0, 0, [])]
theorem h_X6_bestOf_34 : mj_ch 6 cX6_bestOf 34 k_X6_bestOf_34 82 = true := by decide +kernel
def k_X6_bestOf_82 : List mj_O := [(3, 9, 0, 0, []), (5, 7, 0, 0, []), (3, 10, 0, 0, []), (5, 8, 0, 0, [])]
theorem h_X6_bestOf_82 : mj_ch 6 cX6_bestOf 82 k_X6_bestOf_82 90 = true := by decide +kernel
def k_X6_bestOf_90 : List mj_O := [(7, 9, 0, 1, []), (42, 34, 0, 0, [])]
theorem h_X6_bestOf_90 : mj_ch 6 cX6_bestOf 90 k_X6_bestOf_90 96 = true := by decide +kernel
def k_X6_bestOf_96 : List mj_O := [(3, 5, 0, 0, []), (30, 106, 0, 0, []), (3, 8, 0, 0, []), (42, 108, 0, 0, [])]
theorem h_X6_bestOf_96 : mj_ch 6 cX6_bestOf 96 k_X6_bestOf_96 106 = true := by decide +kernel
def k_X6_bestOf_106 : List mj_O := [(3, 7, 0, 0, [])]
theorem h_X6_bestOf_106 : mj_ch 6 cX6_bestOf 106 k_X6_bestOf_106 108 = true := by decide +kernel
def k_X6_bestOf_108 : List mj_O := [(80, 0, 0, 0, [])]
theorem h_X6_bestOf_108 : mj_ch 6 cX6_bestOf 108 k_X6_bestOf_108 109 = true := by decide +kernel
def k_X6_heardBy_0 : List mj_O := [(1, 0, 0, 0, []), (5, 3, 0, 0, []), (1, 0, 0, 0, []), (5, 4, 0, 0, [])]
theorem h_X6_heardBy_0 : mj_ch 6 cX6_heardBy 0 k_X6_heardBy_0 5 = true := by decide +kernel
def k_X6_heardBy_5 : List mj_O := [(3, 4, 0, 0, []), (4, 1, 0, 0, []), (50, 2, 3, 0, []), (39, 47, 0, 0, []), (3, 4, 0, 0, []), (3, 2, 0, 0, []), (36, 41, 0, 0, []), (4, 0, 0, 0, []), (51, 6, 4, 0, []), (4, 1, 0, 0, []), (3, 4, 0, 0, []), (3, 2, 0, 0, []), (70, 396, 0, 0, []), (3, 3, 0, 0, []), (4, 0, 0, 0, []), (51, 6, 4, 0, []), (50, 1, 6, 0, []), (10, 0, 0, 0, []), (5, 3, 0, 0, [])]
theorem h_X6_heardBy_5 : mj_ch 6 cX6_heardBy 5 k_X6_heardBy_5 41 = true := by decide +kernel
def k_X6_heardBy_41 : List mj_O := [(7, 4, 0, 1, []), (42, 5, 0, 0, [])]
theorem h_X6_heardBy_41 : mj_ch 6 cX6_heardBy 41 k_X6_heardBy_41 47 = true := by decide +kernel
def k_X6_heardBy_47 : List mj_O := [(3, 3, 0, 0, []), (80, 0, 0, 0, [])]
theorem h_X6_heardBy_47 : mj_ch 6 cX6_heardBy 47 k_X6_heardBy_47 49 = true := by decide +kernel
def k_X6_firstWrong_0 : List mj_O := [(4, 0, 0, 0, []), (51, 6, 1, 0, []), (4, 0, 0, 0, []), (51, 6, 0, 0, []), (50, 2, 8, 0, []), (52, 2, 8, 0, []), (4, 0, 0, 0, []), (51, 6, 1, 0, []), (4, 0, 0, 0, []), (51, 6, 0, 0, []), (50, 2, 9, 0, []), (52, 2, 9, 0, []), (1, 0, 0, 0, []), (5, 2, 0, 0, [])]
theorem h_X6_firstWrong_0 : mj_ch 6 cX6_firstWrong 0 k_X6_firstWrong_0 30 = true := by decide +kernel
def k_X6_firstWrong_30 : List mj_O := [(3, 2, 0, 0, []), (4, 0, 0, 0, []), (50, 6, 7, 0, []), (39, 98, 0, 0, []), (3, 2, 0, 0, []), (4, 0, 0, 0, []), (51, 6, 6, 0, []), (65, 0, 0, 0, []), (39, 98, 0, 0, []), (4, 0, 0, 0, []), (51, 6, 4, 0, []), (4, 0, 0, 0, []), (51, 6, 1, 0, []), (3, 1, 0, 0, []), (1, 0, 0, (-1), []), (70, 396, 0, 0, []), (4, 0, 0, 0, []), (51, 6, 4, 0, []), (50, 1, 3, 0, []), (4, 0, 0, 0, []), (51, 6, 6, 0, []), (3, 2, 0, 0, []), (60, 0, 0, 0, []), (36, 78, 0, 0, []), (3, 2, 0, 0, []), (80, 0, 0, 0, [])]
theorem h_X6_firstWrong_30 : mj_ch 6 cX6_firstWrong 30 k_X6_firstWrong_30 78 = true := by decide +kernel
def k_X6_firstWrong_78 : List mj_O := [(4, 0, 0, 0, []), (51, 6, 1, 0, []), (4, 0, 0, 0, []), (51, 6, 4, 0, []), (50, 1, 4, 0, []), (70, 417, 0, 0, []), (7, 2, 0, 1, []), (42, 30, 0, 0, [])]
theorem h_X6_firstWrong_78 : mj_ch 6 cX6_firstWrong 78 k_X6_firstWrong_78 98 = true := by decide +kernel
def k_X6_firstWrong_98 : List mj_O := [(1, 0, 0, (-9), []), (80, 0, 0, 0, [])]
theorem h_X6_firstWrong_98 : mj_ch 6 cX6_firstWrong 98 k_X6_firstWrong_98 101 = true := by decide +kernel
def k_X6_drawSets_0 : List mj_O := [(3, 2, 0, 0, []), (5, 3, 0, 0, []), (1, 0, 0, 0, []), (5, 4, 0, 0, [])]
theorem h_X6_drawSets_0 : mj_ch 6 cX6_drawSets 0 k_X6_drawSets_0 5 = true := by decide +kernel
def k_X6_drawSets_5 : List mj_O := [(3, 4, 0, 0, []), (4, 0, 0, 0, []), (51, 6, 1, 0, []), (50, 2, 4, 0, []), (39, 73, 0, 0, []), (4, 0, 0, 0, []), (51, 6, 1, 0, []), (51, 2, 1, 0, []), (3, 4, 0, 0, []), (64, 0, 0, 0, []), (50, 0, 1, 0, []), (3, 1, 0, 0, []), (37, 67, 0, 0, []), (3, 3, 0, 0, []), (1, 0, 0, 1664525, []), (12, 0, 0, 0, []), (1, 0, 0, 1013904223, []), (10, 0, 0, 0, []), (5, 3, 0, 0, []), (4, 0, 0, 0, []), (51, 6, 1, 0, []), (51, 2, 1, 0, []), (3, 4, 0, 0, []), (64, 0, 0, 0, []), (3, 3, 0, 0, []), (1, 0, 0, 2147483647, []), (18, 0, 0, 0, []), (1, 0, 0, 256, []), (13, 0, 0, 0, []), (1, 0, 0, 300, []), (14, 0, 0, 0, []), (52, 0, 2, 0, [])]
theorem h_X6_drawSets_5 : mj_ch 6 cX6_drawSets 5 k_X6_drawSets_5 67 = true := by decide +kernel
def k_X6_drawSets_67 : List mj_O := [(7, 4, 0, 1, []), (42, 5, 0, 0, [])]
theorem h_X6_drawSets_67 : mj_ch 6 cX6_drawSets 67 k_X6_drawSets_67 73 = true := by decide +kernel
def k_X6_drawSets_73 : List mj_O := [(3, 3, 0, 0, []), (80, 0, 0, 0, [])]
theorem h_X6_drawSets_73 : mj_ch 6 cX6_drawSets 73 k_X6_drawSets_73 75 = true := by decide +kernel
def k_X6_areWithin_0 : List mj_O := [(4, 0, 0, 0, []), (65, 0, 0, 0, []), (4, 1, 0, 0, []), (65, 0, 0, 0, []), (39, 9, 0, 0, []), (1, 0, 0, 0, []), (80, 0, 0, 0, [])]
theorem h_X6_areWithin_0 : mj_ch 6 cX6_areWithin 0 k_X6_areWithin_0 9 = true := by decide +kernel
def k_X6_areWithin_9 : List mj_O := [(1, 0, 0, 0, []), (5, 3, 0, 0, [])]
theorem h_X6_areWithin_9 : mj_ch 6 cX6_areWithin 9 k_X6_areWithin_9 11 = true := by decide +kernel
def k_X6_areWithin_11 : List mj_O := [(3, 3, 0, 0, []), (4, 1, 0, 0, []), (65, 0, 0, 0, []), (39, 49, 0, 0, []), (3, 3, 0, 0, []), (4, 2, 0, 0, []), (65, 0, 0, 0, []), (39, 49, 0, 0, []), (4, 0, 0, 0, []), (3, 3, 0, 0, []), (60, 0, 0, 0, []), (4, 1, 0, 0, []), (3, 3, 0, 0, []), (60, 0, 0, 0, []), (38, 41, 0, 0, []), (4, 0, 0, 0, []), (3, 3, 0, 0, []), (60, 0, 0, 0, []), (4, 2, 0, 0, []), (3, 3, 0, 0, []), (60, 0, 0, 0, []), (41, 43, 0, 0, [])]
theorem h_X6_areWithin_11 : mj_ch 6 cX6_areWithin 11 k_X6_areWithin_11 41 = true := by decide +kernel
def k_X6_areWithin_41 : List mj_O := [(1, 0, 0, 0, []), (80, 0, 0, 0, [])]
theorem h_X6_areWithin_41 : mj_ch 6 cX6_areWithin 41 k_X6_areWithin_41 43 = true := by decide +kernel
def k_X6_areWithin_43 : List mj_O := [(7, 3, 0, 1, []), (42, 11, 0, 0, [])]
theorem h_X6_areWithin_43 : mj_ch 6 cX6_areWithin 43 k_X6_areWithin_43 49 = true := by decide +kernel
def k_X6_areWithin_49 : List mj_O := [(1, 0, 0, 1, []), (80, 0, 0, 0, [])]
theorem h_X6_areWithin_49 : mj_ch 6 cX6_areWithin 49 k_X6_areWithin_49 51 = true := by decide +kernel
