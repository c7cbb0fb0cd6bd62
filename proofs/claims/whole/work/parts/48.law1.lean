/-! the law's loop -/
def k_L_law_16 : List mj_O := [(1, 0, 0, 0, []), (5, 3, 0, 0, [])]
theorem h_L_law_16 : mj_ch 8 code 16 k_L_law_16 18 = true := by decide +kernel
def k_L_law_18 : List mj_O := [(3, 3, 0, 0, []), (4, 0, 0, 0, []), (65, 0, 0, 0, []), (1, 0, 0, 4, []), (11, 0, 0, 0, []), (40, 1129, 0, 0, []), (4, 0, 0, 0, []), (3, 3, 0, 0, []), (60, 0, 0, 0, []), (1, 0, 0, 63, []), (18, 0, 0, 0, []), (43, 1123, 0, 0, [(0, 188), (1, 211), (2, 224), (3, 257), (4, 290), (5, 323), (6, 356), (7, 389), (8, 412), (9, 435), (10, 458), (11, 471), (12, 504), (13, 527), (14, 550), (15, 573), (16, 606), (17, 629), (18, 652), (19, 685), (20, 718), (21, 741), (22, 764), (23, 787), (24, 820), (25, 853), (26, 896), (27, 939), (28, 962), (29, 985), (30, 1018), (31, 1031), (32, 1074), (33, 1087), (34, 1100)])]
theorem h_L_law_18 : mj_ch 8 code 18 k_L_law_18 188 = true := by decide +kernel
def k_L_law_188 : List mj_O := [(4, 1, 0, 0, []), (4, 0, 0, 0, []), (3, 3, 0, 0, []), (1, 0, 0, 1, []), (10, 0, 0, 0, []), (60, 0, 0, 0, []), (70, 39, 0, 0, []), (4, 2, 0, 0, []), (4, 0, 0, 0, []), (3, 3, 0, 0, []), (1, 0, 0, 1, []), (10, 0, 0, 0, []), (60, 0, 0, 0, []), (70, 51, 0, 0, []), (36, 1123, 0, 0, []), (1, 0, 0, 0, []), (80, 0, 0, 0, [])]
theorem h_L_law_188 : mj_ch 8 code 188 k_L_law_188 211 = true := by decide +kernel
def k_L_law_211 : List mj_O := [(4, 1, 0, 0, []), (70, 54, 0, 0, []), (4, 2, 0, 0, []), (70, 66, 0, 0, []), (36, 1123, 0, 0, []), (1, 0, 0, 0, []), (80, 0, 0, 0, [])]
theorem h_L_law_211 : mj_ch 8 code 211 k_L_law_211 224 = true := by decide +kernel
def k_L_law_224 : List mj_O := [(4, 1, 0, 0, []), (4, 0, 0, 0, []), (3, 3, 0, 0, []), (1, 0, 0, 1, []), (10, 0, 0, 0, []), (60, 0, 0, 0, []), (4, 0, 0, 0, []), (3, 3, 0, 0, []), (1, 0, 0, 2, []), (10, 0, 0, 0, []), (60, 0, 0, 0, []), (70, 69, 0, 0, []), (4, 2, 0, 0, []), (4, 0, 0, 0, []), (3, 3, 0, 0, []), (1, 0, 0, 1, []), (10, 0, 0, 0, []), (60, 0, 0, 0, []), (4, 0, 0, 0, []), (3, 3, 0, 0, []), (1, 0, 0, 2, []), (10, 0, 0, 0, []), (60, 0, 0, 0, []), (70, 81, 0, 0, []), (36, 1123, 0, 0, []), (1, 0, 0, 0, []), (80, 0, 0, 0, [])]
theorem h_L_law_224 : mj_ch 8 code 224 k_L_law_224 257 = true := by decide +kernel
def k_L_law_257 : List mj_O := [(4, 1, 0, 0, []), (4, 0, 0, 0, []), (3, 3, 0, 0, []), (1, 0, 0, 1, []), (10, 0, 0, 0, []), (60, 0, 0, 0, []), (4, 0, 0, 0, []), (3, 3, 0, 0, []), (1, 0, 0, 2, []), (10, 0, 0, 0, []), (60, 0, 0, 0, []), (70, 84, 0, 0, []), (4, 2, 0, 0, []), (4, 0, 0, 0, []), (3, 3, 0, 0, []), (1, 0, 0, 1, []), (10, 0, 0, 0, []), (60, 0, 0, 0, []), (4, 0, 0, 0, []), (3, 3, 0, 0, []), (1, 0, 0, 2, []), (10, 0, 0, 0, []), (60, 0, 0, 0, []), (70, 93, 0, 0, []), (36, 1123, 0, 0, []), (1, 0, 0, 0, []), (80, 0, 0, 0, [])]
theorem h_L_law_257 : mj_ch 8 code 257 k_L_law_257 290 = true := by decide +kernel
def k_L_law_290 : List mj_O := [(4, 1, 0, 0, []), (4, 0, 0, 0, []), (3, 3, 0, 0, []), (1, 0, 0, 1, []), (10, 0, 0, 0, []), (60, 0, 0, 0, []), (4, 0, 0, 0, []), (3, 3, 0, 0, []), (1, 0, 0, 2, []), (10, 0, 0, 0, []), (60, 0, 0, 0, []), (70, 96, 0, 0, []), (4, 2, 0, 0, []), (4, 0, 0, 0, []), (3, 3, 0, 0, []), (1, 0, 0, 1, []), (10, 0, 0, 0, []), (60, 0, 0, 0, []), (4, 0, 0, 0, []), (3, 3, 0, 0, []), (1, 0, 0, 2, []), (10, 0, 0, 0, []), (60, 0, 0, 0, []), (70, 105, 0, 0, []), (36, 1123, 0, 0, []), (1, 0, 0, 0, []), (80, 0, 0, 0, [])]
theorem h_L_law_290 : mj_ch 8 code 290 k_L_law_290 323 = true := by decide +kernel
def k_L_law_323 : List mj_O := [(4, 1, 0, 0, []), (4, 0, 0, 0, []), (3, 3, 0, 0, []), (1, 0, 0, 1, []), (10, 0, 0, 0, []), (60, 0, 0, 0, []), (4, 0, 0, 0, []), (3, 3, 0, 0, []), (1, 0, 0, 2, []), (10, 0, 0, 0, []), (60, 0, 0, 0, []), (70, 108, 0, 0, []), (4, 2, 0, 0, []), (4, 0, 0, 0, []), (3, 3, 0, 0, []), (1, 0, 0, 1, []), (10, 0, 0, 0, []), (60, 0, 0, 0, []), (4, 0, 0, 0, []), (3, 3, 0, 0, []), (1, 0, 0, 2, []), (10, 0, 0, 0, []), (60, 0, 0, 0, []), (70, 117, 0, 0, []), (36, 1123, 0, 0, []), (1, 0, 0, 0, []), (80, 0, 0, 0, [])]
theorem h_L_law_323 : mj_ch 8 code 323 k_L_law_323 356 = true := by decide +kernel
def k_L_law_356 : List mj_O := [(4, 1, 0, 0, []), (4, 0, 0, 0, []), (3, 3, 0, 0, []), (1, 0, 0, 1, []), (10, 0, 0, 0, []), (60, 0, 0, 0, []), (4, 0, 0, 0, []), (3, 3, 0, 0, []), (1, 0, 0, 2, []), (10, 0, 0, 0, []), (60, 0, 0, 0, []), (70, 120, 0, 0, []), (4, 2, 0, 0, []), (4, 0, 0, 0, []), (3, 3, 0, 0, []), (1, 0, 0, 1, []), (10, 0, 0, 0, []), (60, 0, 0, 0, []), (4, 0, 0, 0, []), (3, 3, 0, 0, []), (1, 0, 0, 2, []), (10, 0, 0, 0, []), (60, 0, 0, 0, []), (70, 129, 0, 0, []), (36, 1123, 0, 0, []), (1, 0, 0, 0, []), (80, 0, 0, 0, [])]
theorem h_L_law_356 : mj_ch 8 code 356 k_L_law_356 389 = true := by decide +kernel
def k_L_law_389 : List mj_O := [(4, 1, 0, 0, []), (4, 0, 0, 0, []), (3, 3, 0, 0, []), (1, 0, 0, 1, []), (10, 0, 0, 0, []), (60, 0, 0, 0, []), (70, 132, 0, 0, []), (4, 2, 0, 0, []), (4, 0, 0, 0, []), (3, 3, 0, 0, []), (1, 0, 0, 1, []), (10, 0, 0, 0, []), (60, 0, 0, 0, []), (70, 141, 0, 0, []), (36, 1123, 0, 0, []), (1, 0, 0, 0, []), (80, 0, 0, 0, [])]
theorem h_L_law_389 : mj_ch 8 code 389 k_L_law_389 412 = true := by decide +kernel
def k_L_law_412 : List mj_O := [(4, 1, 0, 0, []), (4, 0, 0, 0, []), (3, 3, 0, 0, []), (1, 0, 0, 1, []), (10, 0, 0, 0, []), (60, 0, 0, 0, []), (70, 144, 0, 0, []), (4, 2, 0, 0, []), (4, 0, 0, 0, []), (3, 3, 0, 0, []), (1, 0, 0, 1, []), (10, 0, 0, 0, []), (60, 0, 0, 0, []), (70, 153, 0, 0, []), (36, 1123, 0, 0, []), (1, 0, 0, 0, []), (80, 0, 0, 0, [])]
theorem h_L_law_412 : mj_ch 8 code 412 k_L_law_412 435 = true := by decide +kernel
def k_L_law_435 : List mj_O := [(4, 1, 0, 0, []), (4, 0, 0, 0, []), (3, 3, 0, 0, []), (1, 0, 0, 1, []), (10, 0, 0, 0, []), (60, 0, 0, 0, []), (70, 156, 0, 0, []), (4, 2, 0, 0, []), (4, 0, 0, 0, []), (3, 3, 0, 0, []), (1, 0, 0, 1, []), (10, 0, 0, 0, []), (60, 0, 0, 0, []), (70, 165, 0, 0, []), (36, 1123, 0, 0, []), (1, 0, 0, 0, []), (80, 0, 0, 0, [])]
theorem h_L_law_435 : mj_ch 8 code 435 k_L_law_435 458 = true := by decide +kernel
def k_L_law_458 : List mj_O := [(4, 1, 0, 0, []), (70, 168, 0, 0, []), (4, 2, 0, 0, []), (70, 177, 0, 0, []), (36, 1123, 0, 0, []), (1, 0, 0, 0, []), (80, 0, 0, 0, [])]
theorem h_L_law_458 : mj_ch 8 code 458 k_L_law_458 471 = true := by decide +kernel
def k_L_law_471 : List mj_O := [(4, 1, 0, 0, []), (4, 0, 0, 0, []), (3, 3, 0, 0, []), (1, 0, 0, 1, []), (10, 0, 0, 0, []), (60, 0, 0, 0, []), (4, 0, 0, 0, []), (3, 3, 0, 0, []), (1, 0, 0, 2, []), (10, 0, 0, 0, []), (60, 0, 0, 0, []), (70, 180, 0, 0, []), (4, 2, 0, 0, []), (4, 0, 0, 0, []), (3, 3, 0, 0, []), (1, 0, 0, 1, []), (10, 0, 0, 0, []), (60, 0, 0, 0, []), (4, 0, 0, 0, []), (3, 3, 0, 0, []), (1, 0, 0, 2, []), (10, 0, 0, 0, []), (60, 0, 0, 0, []), (70, 189, 0, 0, []), (36, 1123, 0, 0, []), (1, 0, 0, 0, []), (80, 0, 0, 0, [])]
theorem h_L_law_471 : mj_ch 8 code 471 k_L_law_471 504 = true := by decide +kernel
def k_L_law_504 : List mj_O := [(4, 1, 0, 0, []), (4, 0, 0, 0, []), (3, 3, 0, 0, []), (1, 0, 0, 1, []), (10, 0, 0, 0, []), (60, 0, 0, 0, []), (70, 192, 0, 0, []), (4, 2, 0, 0, []), (4, 0, 0, 0, []), (3, 3, 0, 0, []), (1, 0, 0, 1, []), (10, 0, 0, 0, []), (60, 0, 0, 0, []), (70, 201, 0, 0, []), (36, 1123, 0, 0, []), (1, 0, 0, 0, []), (80, 0, 0, 0, [])]
theorem h_L_law_504 : mj_ch 8 code 504 k_L_law_504 527 = true := by decide +kernel
def k_L_law_527 : List mj_O := [(4, 1, 0, 0, []), (4, 0, 0, 0, []), (3, 3, 0, 0, []), (1, 0, 0, 1, []), (10, 0, 0, 0, []), (60, 0, 0, 0, []), (70, 204, 0, 0, []), (4, 2, 0, 0, []), (4, 0, 0, 0, []), (3, 3, 0, 0, []), (1, 0, 0, 1, []), (10, 0, 0, 0, []), (60, 0, 0, 0, []), (70, 213, 0, 0, []), (36, 1123, 0, 0, []), (1, 0, 0, 0, []), (80, 0, 0, 0, [])]
theorem h_L_law_527 : mj_ch 8 code 527 k_L_law_527 550 = true := by decide +kernel
def k_L_law_550 : List mj_O := [(4, 1, 0, 0, []), (4, 0, 0, 0, []), (3, 3, 0, 0, []), (1, 0, 0, 1, []), (10, 0, 0, 0, []), (60, 0, 0, 0, []), (70, 216, 0, 0, []), (4, 2, 0, 0, []), (4, 0, 0, 0, []), (3, 3, 0, 0, []), (1, 0, 0, 1, []), (10, 0, 0, 0, []), (60, 0, 0, 0, []), (70, 225, 0, 0, []), (36, 1123, 0, 0, []), (1, 0, 0, 0, []), (80, 0, 0, 0, [])]
theorem h_L_law_550 : mj_ch 8 code 550 k_L_law_550 573 = true := by decide +kernel
def k_L_law_573 : List mj_O := [(4, 1, 0, 0, []), (4, 0, 0, 0, []), (3, 3, 0, 0, []), (1, 0, 0, 1, []), (10, 0, 0, 0, []), (60, 0, 0, 0, []), (4, 0, 0, 0, []), (3, 3, 0, 0, []), (1, 0, 0, 2, []), (10, 0, 0, 0, []), (60, 0, 0, 0, []), (70, 228, 0, 0, []), (4, 2, 0, 0, []), (4, 0, 0, 0, []), (3, 3, 0, 0, []), (1, 0, 0, 1, []), (10, 0, 0, 0, []), (60, 0, 0, 0, []), (4, 0, 0, 0, []), (3, 3, 0, 0, []), (1, 0, 0, 2, []), (10, 0, 0, 0, []), (60, 0, 0, 0, []), (70, 237, 0, 0, []), (36, 1123, 0, 0, []), (1, 0, 0, 0, []), (80, 0, 0, 0, [])]
theorem h_L_law_573 : mj_ch 8 code 573 k_L_law_573 606 = true := by decide +kernel
def k_L_law_606 : List mj_O := [(4, 1, 0, 0, []), (4, 0, 0, 0, []), (3, 3, 0, 0, []), (1, 0, 0, 1, []), (10, 0, 0, 0, []), (60, 0, 0, 0, []), (70, 240, 0, 0, []), (4, 2, 0, 0, []), (4, 0, 0, 0, []), (3, 3, 0, 0, []), (1, 0, 0, 1, []), (10, 0, 0, 0, []), (60, 0, 0, 0, []), (70, 249, 0, 0, []), (36, 1123, 0, 0, []), (1, 0, 0, 0, []), (80, 0, 0, 0, [])]
theorem h_L_law_606 : mj_ch 8 code 606 k_L_law_606 629 = true := by decide +kernel
def k_L_law_629 : List mj_O := [(4, 1, 0, 0, []), (4, 0, 0, 0, []), (3, 3, 0, 0, []), (1, 0, 0, 1, []), (10, 0, 0, 0, []), (60, 0, 0, 0, []), (70, 252, 0, 0, []), (4, 2, 0, 0, []), (4, 0, 0, 0, []), (3, 3, 0, 0, []), (1, 0, 0, 1, []), (10, 0, 0, 0, []), (60, 0, 0, 0, []), (70, 261, 0, 0, []), (36, 1123, 0, 0, []), (1, 0, 0, 0, []), (80, 0, 0, 0, [])]
theorem h_L_law_629 : mj_ch 8 code 629 k_L_law_629 652 = true := by decide +kernel
def k_L_law_652 : List mj_O := [(4, 1, 0, 0, []), (4, 0, 0, 0, []), (3, 3, 0, 0, []), (1, 0, 0, 1, []), (10, 0, 0, 0, []), (60, 0, 0, 0, []), (4, 0, 0, 0, []), (3, 3, 0, 0, []), (1, 0, 0, 2, []), (10, 0, 0, 0, []), (60, 0, 0, 0, []), (70, 264, 0, 0, []), (4, 2, 0, 0, []), (4, 0, 0, 0, []), (3, 3, 0, 0, []), (1, 0, 0, 1, []), (10, 0, 0, 0, []), (60, 0, 0, 0, []), (4, 0, 0, 0, []), (3, 3, 0, 0, []), (1, 0, 0, 2, []), (10, 0, 0, 0, []), (60, 0, 0, 0, []), (70, 273, 0, 0, []), (36, 1123, 0, 0, []), (1, 0, 0, 0, []), (80, 0, 0, 0, [])]
theorem h_L_law_652 : mj_ch 8 code 652 k_L_law_652 685 = true := by decide +kernel
def k_L_law_685 : List mj_O := [(4, 1, 0, 0, []), (4, 0, 0, 0, []), (3, 3, 0, 0, []), (1, 0, 0, 1, []), (10, 0, 0, 0, []), (60, 0, 0, 0, []), (4, 0, 0, 0, []), (3, 3, 0, 0, []), (1, 0, 0, 2, []), (10, 0, 0, 0, []), (60, 0, 0, 0, []), (70, 276, 0, 0, []), (4, 2, 0, 0, []), (4, 0, 0, 0, []), (3, 3, 0, 0, []), (1, 0, 0, 1, []), (10, 0, 0, 0, []), (60, 0, 0, 0, []), (4, 0, 0, 0, []), (3, 3, 0, 0, []), (1, 0, 0, 2, []), (10, 0, 0, 0, []), (60, 0, 0, 0, []), (70, 285, 0, 0, []), (36, 1123, 0, 0, []), (1, 0, 0, 0, []), (80, 0, 0, 0, [])]
theorem h_L_law_685 : mj_ch 8 code 685 k_L_law_685 718 = true := by decide +kernel
def k_L_law_718 : List mj_O := [(4, 1, 0, 0, []), (4, 0, 0, 0, []), (3, 3, 0, 0, []), (1, 0, 0, 1, []), (10, 0, 0, 0, []), (60, 0, 0, 0, []), (70, 288, 0, 0, []), (4, 2, 0, 0, []), (4, 0, 0, 0, []), (3, 3, 0, 0, []), (1, 0, 0, 1, []), (10, 0, 0, 0, []), (60, 0, 0, 0, []), (70, 297, 0, 0, []), (36, 1123, 0, 0, []), (1, 0, 0, 0, []), (80, 0, 0, 0, [])]
theorem h_L_law_718 : mj_ch 8 code 718 k_L_law_718 741 = true := by decide +kernel
def k_L_law_741 : List mj_O := [(4, 1, 0, 0, []), (4, 0, 0, 0, []), (3, 3, 0, 0, []), (1, 0, 0, 1, []), (10, 0, 0, 0, []), (60, 0, 0, 0, []), (70, 300, 0, 0, []), (4, 2, 0, 0, []), (4, 0, 0, 0, []), (3, 3, 0, 0, []), (1, 0, 0, 1, []), (10, 0, 0, 0, []), (60, 0, 0, 0, []), (70, 309, 0, 0, []), (36, 1123, 0, 0, []), (1, 0, 0, 0, []), (80, 0, 0, 0, [])]
theorem h_L_law_741 : mj_ch 8 code 741 k_L_law_741 764 = true := by decide +kernel
def k_L_law_764 : List mj_O := [(4, 1, 0, 0, []), (4, 0, 0, 0, []), (3, 3, 0, 0, []), (1, 0, 0, 1, []), (10, 0, 0, 0, []), (60, 0, 0, 0, []), (70, 312, 0, 0, []), (4, 2, 0, 0, []), (4, 0, 0, 0, []), (3, 3, 0, 0, []), (1, 0, 0, 1, []), (10, 0, 0, 0, []), (60, 0, 0, 0, []), (70, 321, 0, 0, []), (36, 1123, 0, 0, []), (1, 0, 0, 0, []), (80, 0, 0, 0, [])]
theorem h_L_law_764 : mj_ch 8 code 764 k_L_law_764 787 = true := by decide +kernel
def k_L_law_787 : List mj_O := [(4, 1, 0, 0, []), (4, 0, 0, 0, []), (3, 3, 0, 0, []), (1, 0, 0, 1, []), (10, 0, 0, 0, []), (60, 0, 0, 0, []), (4, 0, 0, 0, []), (3, 3, 0, 0, []), (1, 0, 0, 2, []), (10, 0, 0, 0, []), (60, 0, 0, 0, []), (70, 324, 0, 0, []), (4, 2, 0, 0, []), (4, 0, 0, 0, []), (3, 3, 0, 0, []), (1, 0, 0, 1, []), (10, 0, 0, 0, []), (60, 0, 0, 0, []), (4, 0, 0, 0, []), (3, 3, 0, 0, []), (1, 0, 0, 2, []), (10, 0, 0, 0, []), (60, 0, 0, 0, []), (70, 333, 0, 0, []), (36, 1123, 0, 0, []), (1, 0, 0, 0, []), (80, 0, 0, 0, [])]
theorem h_L_law_787 : mj_ch 8 code 787 k_L_law_787 820 = true := by decide +kernel
def k_L_law_820 : List mj_O := [(4, 1, 0, 0, []), (4, 0, 0, 0, []), (3, 3, 0, 0, []), (1, 0, 0, 1, []), (10, 0, 0, 0, []), (60, 0, 0, 0, []), (4, 0, 0, 0, []), (3, 3, 0, 0, []), (1, 0, 0, 2, []), (10, 0, 0, 0, []), (60, 0, 0, 0, []), (70, 336, 0, 0, []), (4, 2, 0, 0, []), (4, 0, 0, 0, []), (3, 3, 0, 0, []), (1, 0, 0, 1, []), (10, 0, 0, 0, []), (60, 0, 0, 0, []), (4, 0, 0, 0, []), (3, 3, 0, 0, []), (1, 0, 0, 2, []), (10, 0, 0, 0, []), (60, 0, 0, 0, []), (70, 345, 0, 0, []), (36, 1123, 0, 0, []), (1, 0, 0, 0, []), (80, 0, 0, 0, [])]
theorem h_L_law_820 : mj_ch 8 code 820 k_L_law_820 853 = true := by decide +kernel
def k_L_law_853 : List mj_O := [(4, 1, 0, 0, []), (4, 0, 0, 0, []), (3, 3, 0, 0, []), (1, 0, 0, 1, []), (10, 0, 0, 0, []), (60, 0, 0, 0, []), (4, 0, 0, 0, []), (3, 3, 0, 0, []), (1, 0, 0, 2, []), (10, 0, 0, 0, []), (60, 0, 0, 0, []), (4, 0, 0, 0, []), (3, 3, 0, 0, []), (1, 0, 0, 3, []), (10, 0, 0, 0, []), (60, 0, 0, 0, []), (70, 348, 0, 0, []), (4, 2, 0, 0, []), (4, 0, 0, 0, []), (3, 3, 0, 0, []), (1, 0, 0, 1, []), (10, 0, 0, 0, []), (60, 0, 0, 0, []), (4, 0, 0, 0, []), (3, 3, 0, 0, []), (1, 0, 0, 2, []), (10, 0, 0, 0, []), (60, 0, 0, 0, []), (4, 0, 0, 0, []), (3, 3, 0, 0, []), (1, 0, 0, 3, []), (10, 0, 0, 0, []), (60, 0, 0, 0, []), (70, 360, 0, 0, []), (36, 1123, 0, 0, []), (1, 0, 0, 0, []), (80, 0, 0, 0, [])]
theorem h_L_law_853 : mj_ch 8 code 853 k_L_law_853 896 = true := by decide +kernel
def k_L_law_896 : List mj_O := [(4, 1, 0, 0, []), (4, 0, 0, 0, []), (3, 3, 0, 0, []), (1, 0, 0, 1, []), (10, 0, 0, 0, []), (60, 0, 0, 0, []), (4, 0, 0, 0, []), (3, 3, 0, 0, []), (1, 0, 0, 2, []), (10, 0, 0, 0, []), (60, 0, 0, 0, []), (4, 0, 0, 0, []), (3, 3, 0, 0, []), (1, 0, 0, 3, []), (10, 0, 0, 0, []), (60, 0, 0, 0, []), (70, 363, 0, 0, []), (4, 2, 0, 0, []), (4, 0, 0, 0, []), (3, 3, 0, 0, []), (1, 0, 0, 1, []), (10, 0, 0, 0, []), (60, 0, 0, 0, []), (4, 0, 0, 0, []), (3, 3, 0, 0, []), (1, 0, 0, 2, []), (10, 0, 0, 0, []), (60, 0, 0, 0, []), (4, 0, 0, 0, []), (3, 3, 0, 0, []), (1, 0, 0, 3, []), (10, 0, 0, 0, []), (60, 0, 0, 0, []), (70, 372, 0, 0, []), (36, 1123, 0, 0, []), (1, 0, 0, 0, []), (80, 0, 0, 0, [])]
theorem h_L_law_896 : mj_ch 8 code 896 k_L_law_896 939 = true := by decide +kernel
def k_L_law_939 : List mj_O := [(4, 1, 0, 0, []), (4, 0, 0, 0, []), (3, 3, 0, 0, []), (1, 0, 0, 1, []), (10, 0, 0, 0, []), (60, 0, 0, 0, []), (70, 375, 0, 0, []), (4, 2, 0, 0, []), (4, 0, 0, 0, []), (3, 3, 0, 0, []), (1, 0, 0, 1, []), (10, 0, 0, 0, []), (60, 0, 0, 0, []), (70, 384, 0, 0, []), (36, 1123, 0, 0, []), (1, 0, 0, 0, []), (80, 0, 0, 0, [])]
theorem h_L_law_939 : mj_ch 8 code 939 k_L_law_939 962 = true := by decide +kernel
def k_L_law_962 : List mj_O := [(4, 1, 0, 0, []), (4, 0, 0, 0, []), (3, 3, 0, 0, []), (1, 0, 0, 1, []), (10, 0, 0, 0, []), (60, 0, 0, 0, []), (70, 387, 0, 0, []), (4, 2, 0, 0, []), (4, 0, 0, 0, []), (3, 3, 0, 0, []), (1, 0, 0, 1, []), (10, 0, 0, 0, []), (60, 0, 0, 0, []), (70, 396, 0, 0, []), (36, 1123, 0, 0, []), (1, 0, 0, 0, []), (80, 0, 0, 0, [])]
theorem h_L_law_962 : mj_ch 8 code 962 k_L_law_962 985 = true := by decide +kernel
def k_L_law_985 : List mj_O := [(4, 1, 0, 0, []), (4, 0, 0, 0, []), (3, 3, 0, 0, []), (1, 0, 0, 1, []), (10, 0, 0, 0, []), (60, 0, 0, 0, []), (4, 0, 0, 0, []), (3, 3, 0, 0, []), (1, 0, 0, 2, []), (10, 0, 0, 0, []), (60, 0, 0, 0, []), (70, 399, 0, 0, []), (4, 2, 0, 0, []), (4, 0, 0, 0, []), (3, 3, 0, 0, []), (1, 0, 0, 1, []), (10, 0, 0, 0, []), (60, 0, 0, 0, []), (4, 0, 0, 0, []), (3, 3, 0, 0, []), (1, 0, 0, 2, []), (10, 0, 0, 0, []), (60, 0, 0, 0, []), (70, 408, 0, 0, []), (36, 1123, 0, 0, []), (1, 0, 0, 0, []), (80, 0, 0, 0, [])]
theorem h_L_law_985 : mj_ch 8 code 985 k_L_law_985 1018 = true := by decide +kernel
def k_L_law_1018 : List mj_O := [(4, 1, 0, 0, []), (70, 411, 0, 0, []), (4, 2, 0, 0, []), (70, 420, 0, 0, []), (36, 1123, 0, 0, []), (1, 0, 0, 0, []), (80, 0, 0, 0, [])]
theorem h_L_law_1018 : mj_ch 8 code 1018 k_L_law_1018 1031 = true := by decide +kernel
def k_L_law_1031 : List mj_O := [(4, 1, 0, 0, []), (4, 0, 0, 0, []), (3, 3, 0, 0, []), (1, 0, 0, 1, []), (10, 0, 0, 0, []), (60, 0, 0, 0, []), (4, 0, 0, 0, []), (3, 3, 0, 0, []), (1, 0, 0, 2, []), (10, 0, 0, 0, []), (60, 0, 0, 0, []), (4, 0, 0, 0, []), (3, 3, 0, 0, []), (1, 0, 0, 3, []), (10, 0, 0, 0, []), (60, 0, 0, 0, []), (70, 423, 0, 0, []), (4, 2, 0, 0, []), (4, 0, 0, 0, []), (3, 3, 0, 0, []), (1, 0, 0, 1, []), (10, 0, 0, 0, []), (60, 0, 0, 0, []), (4, 0, 0, 0, []), (3, 3, 0, 0, []), (1, 0, 0, 2, []), (10, 0, 0, 0, []), (60, 0, 0, 0, []), (4, 0, 0, 0, []), (3, 3, 0, 0, []), (1, 0, 0, 3, []), (10, 0, 0, 0, []), (60, 0, 0, 0, []), (70, 432, 0, 0, []), (36, 1123, 0, 0, []), (1, 0, 0, 0, []), (80, 0, 0, 0, [])]
theorem h_L_law_1031 : mj_ch 8 code 1031 k_L_law_1031 1074 = true := by decide +kernel
def k_L_law_1074 : List mj_O := [(4, 1, 0, 0, []), (70, 435, 0, 0, []), (4, 2, 0, 0, []), (70, 444, 0, 0, []), (36, 1123, 0, 0, []), (1, 0, 0, 0, []), (80, 0, 0, 0, [])]
theorem h_L_law_1074 : mj_ch 8 code 1074 k_L_law_1074 1087 = true := by decide +kernel
def k_L_law_1087 : List mj_O := [(4, 1, 0, 0, []), (70, 447, 0, 0, []), (4, 2, 0, 0, []), (70, 456, 0, 0, []), (36, 1123, 0, 0, []), (1, 0, 0, 0, []), (80, 0, 0, 0, [])]
theorem h_L_law_1087 : mj_ch 8 code 1087 k_L_law_1087 1100 = true := by decide +kernel
def k_L_law_1100 : List mj_O := [(4, 1, 0, 0, []), (4, 0, 0, 0, []), (3, 3, 0, 0, []), (1, 0, 0, 1, []), (10, 0, 0, 0, []), (60, 0, 0, 0, []), (70, 459, 0, 0, []), (4, 2, 0, 0, []), (4, 0, 0, 0, []), (3, 3, 0, 0, []), (1, 0, 0, 1, []), (10, 0, 0, 0, []), (60, 0, 0, 0, []), (70, 468, 0, 0, []), (36, 1123, 0, 0, []), (1, 0, 0, 0, []), (80, 0, 0, 0, [])]
theorem h_L_law_1100 : mj_ch 8 code 1100 k_L_law_1100 1123 = true := by decide +kernel
def k_L_law_1123 : List mj_O := [(7, 3, 0, 4, []), (42, 18, 0, 0, [])]
theorem h_L_law_1123 : mj_ch 8 code 1123 k_L_law_1123 1129 = true := by decide +kernel
def k_L_law_1129 : List mj_O := [(1, 0, 0, 1, []), (80, 0, 0, 0, [])]
theorem h_L_law_1129 : mj_ch 8 code 1129 k_L_law_1129 1131 = true := by decide +kernel
def lw_it : List (Nat × mj_C) := [(39, C_M_letter6), (51, C_M_letter), (54, C_M_room6), (66, C_M_room), (69, C_M_sleeper6), (81, C_M_sleeper), (84, C_M_clock6), (93, C_M_clock), (96, C_M_task6), (105, C_M_task), (108, C_M_set6), (117, C_M_set), (120, C_M_every6), (129, C_M_every), (132, C_M_firm6), (141, C_M_firm), (144, C_M_bus6), (153, C_M_bus), (156, C_M_tired6), (165, C_M_tired), (168, C_M_night6), (177, C_M_night), (180, C_M_depth6), (189, C_M_depth), (192, C_M_up6), (201, C_M_up), (204, C_M_presses6), (213, C_M_presses), (216, C_M_slept6), (225, C_M_slept), (228, C_M_done6), (237, C_M_done), (240, C_M_value6), (249, C_M_value), (252, C_M_cost6), (261, C_M_cost), (264, C_M_evening6), (273, C_M_evening), (276, C_M_often6), (285, C_M_often), (288, C_M_hears6), (297, C_M_hears), (300, C_M_silent6), (309, C_M_silent), (312, C_M_bet6), (321, C_M_bet), (324, C_M_leans6), (333, C_M_leans), (336, C_M_back6), (345, C_M_back), (348, C_M_moment6), (360, C_M_moment), (363, C_M_week6), (372, C_M_week), (375, C_M_row6), (384, C_M_row), (387, C_M_judge6), (396, C_M_judge), (399, C_M_firms6), (408, C_M_firms), (411, C_M_clear6), (420, C_M_clear), (423, C_M_lots6), (432, C_M_lots), (435, C_M_image6), (444, C_M_image), (447, C_M_on6), (456, C_M_on), (459, C_M_count6), (468, C_M_count)]
theorem lw_k0 : mj_Ka 8 room_1 600000 7302250 39 C_M_letter6 := mj_KV (own := 8) (nest := false) t_M_letter6 ⟨wc_X6_letter, wi_X6, by decide, wl_8_13⟩ wn_X6_letter ws_X6_letter (c0 := 6) (by decide) rfl (by decide +kernel) rc_M_letter6 ⟨by decide, by decide, Nat.le_refl _, Nat.le_refl _⟩
theorem lw_k1 : mj_Ka 8 room_1 600000 7302250 51 C_M_letter := mj_KV (own := 8) (nest := false) t_M_letter ⟨wc_X7_letter, wi_X7, by decide, wl_8_17⟩ wn_X7_letter ws_X7_letter (c0 := 7) (by decide) rfl (by decide +kernel) rc_M_letter ⟨by decide, by decide, Nat.le_refl _, Nat.le_refl _⟩
theorem lw_k2 : mj_Ka 8 room_1 600000 7302250 54 C_M_room6 := mj_KV (own := 8) (nest := false) t_M_room6 ⟨wc_X6_room, wi_X6, by decide, wl_8_18⟩ wn_X6_room ws_X6_room (c0 := 6) (by decide) rfl (by decide +kernel) rc_M_room6 ⟨by decide, by decide, Nat.le_refl _, Nat.le_refl _⟩
theorem lw_k3 : mj_Ka 8 room_1 600000 7302250 66 C_M_room := mj_KV (own := 8) (nest := false) t_M_room ⟨wc_X7_room, wi_X7, by decide, wl_8_22⟩ wn_X7_room ws_X7_room (c0 := 7) (by decide) rfl (by decide +kernel) rc_M_room ⟨by decide, by decide, Nat.le_refl _, Nat.le_refl _⟩
theorem lw_k4 : mj_Ka 8 room_1 600000 7302250 69 C_M_sleeper6 := mj_KV (own := 8) (nest := false) t_M_sleeper6 ⟨wc_X6_sleeper, wi_X6, by decide, wl_8_23⟩ wn_X6_sleeper ws_X6_sleeper (c0 := 6) (by decide) rfl (by decide +kernel) rc_M_sleeper6 ⟨by decide, by decide, Nat.le_refl _, Nat.le_refl _⟩
theorem lw_k5 : mj_Ka 8 room_1 600000 7302250 81 C_M_sleeper := mj_KV (own := 8) (nest := false) t_M_sleeper ⟨wc_X7_sleeper, wi_X7, by decide, wl_8_27⟩ wn_X7_sleeper ws_X7_sleeper (c0 := 7) (by decide) rfl (by decide +kernel) rc_M_sleeper ⟨by decide, by decide, Nat.le_refl _, Nat.le_refl _⟩
theorem lw_k6 : mj_Ka 8 room_1 600000 7302250 84 C_M_clock6 := mj_KV (own := 8) (nest := false) t_M_clock6 ⟨wc_X6_clock, wi_X6, by decide, wl_8_28⟩ wn_X6_clock ws_X6_clock (c0 := 6) (by decide) rfl (by decide +kernel) rc_M_clock6 ⟨by decide, by decide, Nat.le_refl _, Nat.le_refl _⟩
theorem lw_k7 : mj_Ka 8 room_1 600000 7302250 93 C_M_clock := mj_KV (own := 8) (nest := false) t_M_clock ⟨wc_X7_clock, wi_X7, by decide, wl_8_31⟩ wn_X7_clock ws_X7_clock (c0 := 7) (by decide) rfl (by decide +kernel) rc_M_clock ⟨by decide, by decide, Nat.le_refl _, Nat.le_refl _⟩
theorem lw_k8 : mj_Ka 8 room_1 600000 7302250 96 C_M_task6 := mj_KV (own := 8) (nest := false) t_M_task6 ⟨wc_X6_task, wi_X6, by decide, wl_8_32⟩ wn_X6_task ws_X6_task (c0 := 6) (by decide) rfl (by decide +kernel) rc_M_task6 ⟨by decide, by decide, Nat.le_refl _, Nat.le_refl _⟩
theorem lw_k9 : mj_Ka 8 room_1 600000 7302250 105 C_M_task := mj_KV (own := 8) (nest := false) t_M_task ⟨wc_X7_task, wi_X7, by decide, wl_8_35⟩ wn_X7_task ws_X7_task (c0 := 7) (by decide) rfl (by decide +kernel) rc_M_task ⟨by decide, by decide, Nat.le_refl _, Nat.le_refl _⟩
theorem lw_k10 : mj_Ka 8 room_1 600000 7302250 108 C_M_set6 := mj_KV (own := 8) (nest := false) t_M_set6 ⟨wc_X6_set, wi_X6, by decide, wl_8_36⟩ wn_X6_set ws_X6_set (c0 := 6) (by decide) rfl (by decide +kernel) rc_M_set6 ⟨by decide, by decide, Nat.le_refl _, Nat.le_refl _⟩
theorem lw_k11 : mj_Ka 8 room_1 600000 7302250 117 C_M_set := mj_KV (own := 8) (nest := false) t_M_set ⟨wc_X7_set, wi_X7, by decide, wl_8_39⟩ wn_X7_set ws_X7_set (c0 := 7) (by decide) rfl (by decide +kernel) rc_M_set ⟨by decide, by decide, Nat.le_refl _, Nat.le_refl _⟩
theorem lw_k12 : mj_Ka 8 room_1 600000 7302250 120 C_M_every6 := mj_KV (own := 8) (nest := false) t_M_every6 ⟨wc_X6_every, wi_X6, by decide, wl_8_40⟩ wn_X6_every ws_X6_every (c0 := 6) (by decide) rfl (by decide +kernel) rc_M_every6 ⟨by decide, by decide, Nat.le_refl _, Nat.le_refl _⟩
theorem lw_k13 : mj_Ka 8 room_1 600000 7302250 129 C_M_every := mj_KV (own := 8) (nest := false) t_M_every ⟨wc_X7_every, wi_X7, by decide, wl_8_43⟩ wn_X7_every ws_X7_every (c0 := 7) (by decide) rfl (by decide +kernel) rc_M_every ⟨by decide, by decide, Nat.le_refl _, Nat.le_refl _⟩
theorem lw_k14 : mj_Ka 8 room_1 600000 7302250 132 C_M_firm6 := mj_KV (own := 8) (nest := false) t_M_firm6 ⟨wc_X6_firm, wi_X6, by decide, wl_8_44⟩ wn_X6_firm ws_X6_firm (c0 := 6) (by decide) rfl (by decide +kernel) rc_M_firm6 ⟨by decide, by decide, Nat.le_refl _, Nat.le_refl _⟩
theorem lw_k15 : mj_Ka 8 room_1 600000 7302250 141 C_M_firm := mj_KV (own := 8) (nest := false) t_M_firm ⟨wc_X7_firm, wi_X7, by decide, wl_8_47⟩ wn_X7_firm ws_X7_firm (c0 := 7) (by decide) rfl (by decide +kernel) rc_M_firm ⟨by decide, by decide, Nat.le_refl _, Nat.le_refl _⟩
theorem lw_k16 : mj_Ka 8 room_1 600000 7302250 144 C_M_bus6 := mj_KV (own := 8) (nest := false) t_M_bus6 ⟨wc_X6_bus, wi_X6, by decide, wl_8_48⟩ wn_X6_bus ws_X6_bus (c0 := 6) (by decide) rfl (by decide +kernel) rc_M_bus6 ⟨by decide, by decide, Nat.le_refl _, Nat.le_refl _⟩
theorem lw_k17 : mj_Ka 8 room_1 600000 7302250 153 C_M_bus := mj_KV (own := 8) (nest := false) t_M_bus ⟨wc_X7_bus, wi_X7, by decide, wl_8_51⟩ wn_X7_bus ws_X7_bus (c0 := 7) (by decide) rfl (by decide +kernel) rc_M_bus ⟨by decide, by decide, Nat.le_refl _, Nat.le_refl _⟩
theorem lw_k18 : mj_Ka 8 room_1 600000 7302250 156 C_M_tired6 := mj_KV (own := 8) (nest := false) t_M_tired6 ⟨wc_X6_tired, wi_X6, by decide, wl_8_52⟩ wn_X6_tired ws_X6_tired (c0 := 6) (by decide) rfl (by decide +kernel) rc_M_tired6 ⟨by decide, by decide, Nat.le_refl _, Nat.le_refl _⟩
theorem lw_k19 : mj_Ka 8 room_1 600000 7302250 165 C_M_tired := mj_KV (own := 8) (nest := false) t_M_tired ⟨wc_X7_tired, wi_X7, by decide, wl_8_55⟩ wn_X7_tired ws_X7_tired (c0 := 7) (by decide) rfl (by decide +kernel) rc_M_tired ⟨by decide, by decide, Nat.le_refl _, Nat.le_refl _⟩
theorem lw_k20 : mj_Ka 8 room_1 600000 7302250 168 C_M_night6 := mj_KV (own := 8) (nest := false) t_M_night6 ⟨wc_X6_night, wi_X6, by decide, wl_8_56⟩ wn_X6_night ws_X6_night (c0 := 6) (by decide) rfl (by decide +kernel) rc_M_night6 ⟨by decide, by decide, Nat.le_refl _, Nat.le_refl _⟩
theorem lw_k21 : mj_Ka 8 room_1 600000 7302250 177 C_M_night := mj_KV (own := 8) (nest := false) t_M_night ⟨wc_X7_night, wi_X7, by decide, wl_8_59⟩ wn_X7_night ws_X7_night (c0 := 7) (by decide) rfl (by decide +kernel) rc_M_night ⟨by decide, by decide, Nat.le_refl _, Nat.le_refl _⟩
theorem lw_k22 : mj_Ka 8 room_1 600000 7302250 180 C_M_depth6 := mj_KV (own := 8) (nest := false) t_M_depth6 ⟨wc_X6_depth, wi_X6, by decide, wl_8_60⟩ wn_X6_depth ws_X6_depth (c0 := 6) (by decide) rfl (by decide +kernel) rc_M_depth6 ⟨by decide, by decide, Nat.le_refl _, Nat.le_refl _⟩
theorem lw_k23 : mj_Ka 8 room_1 600000 7302250 189 C_M_depth := mj_KV (own := 8) (nest := false) t_M_depth ⟨wc_X7_depth, wi_X7, by decide, wl_8_63⟩ wn_X7_depth ws_X7_depth (c0 := 7) (by decide) rfl (by decide +kernel) rc_M_depth ⟨by decide, by decide, Nat.le_refl _, Nat.le_refl _⟩
theorem lw_k24 : mj_Ka 8 room_1 600000 7302250 192 C_M_up6 := mj_KV (own := 8) (nest := false) t_M_up6 ⟨wc_X6_up, wi_X6, by decide, wl_8_64⟩ wn_X6_up ws_X6_up (c0 := 6) (by decide) rfl (by decide +kernel) rc_M_up6 ⟨by decide, by decide, Nat.le_refl _, Nat.le_refl _⟩
theorem lw_k25 : mj_Ka 8 room_1 600000 7302250 201 C_M_up := mj_KV (own := 8) (nest := false) t_M_up ⟨wc_X7_up, wi_X7, by decide, wl_8_67⟩ wn_X7_up ws_X7_up (c0 := 7) (by decide) rfl (by decide +kernel) rc_M_up ⟨by decide, by decide, Nat.le_refl _, Nat.le_refl _⟩
theorem lw_k26 : mj_Ka 8 room_1 600000 7302250 204 C_M_presses6 := mj_KV (own := 8) (nest := false) t_M_presses6 ⟨wc_X6_presses, wi_X6, by decide, wl_8_68⟩ wn_X6_presses ws_X6_presses (c0 := 6) (by decide) rfl (by decide +kernel) rc_M_presses6 ⟨by decide, by decide, Nat.le_refl _, Nat.le_refl _⟩
theorem lw_k27 : mj_Ka 8 room_1 600000 7302250 213 C_M_presses := mj_KV (own := 8) (nest := false) t_M_presses ⟨wc_X7_presses, wi_X7, by decide, wl_8_71⟩ wn_X7_presses ws_X7_presses (c0 := 7) (by decide) rfl (by decide +kernel) rc_M_presses ⟨by decide, by decide, Nat.le_refl _, Nat.le_refl _⟩
theorem lw_k28 : mj_Ka 8 room_1 600000 7302250 216 C_M_slept6 := mj_KV (own := 8) (nest := false) t_M_slept6 ⟨wc_X6_slept, wi_X6, by decide, wl_8_72⟩ wn_X6_slept ws_X6_slept (c0 := 6) (by decide) rfl (by decide +kernel) rc_M_slept6 ⟨by decide, by decide, Nat.le_refl _, Nat.le_refl _⟩
theorem lw_k29 : mj_Ka 8 room_1 600000 7302250 225 C_M_slept := mj_KV (own := 8) (nest := false) t_M_slept ⟨wc_X7_slept, wi_X7, by decide, wl_8_75⟩ wn_X7_slept ws_X7_slept (c0 := 7) (by decide) rfl (by decide +kernel) rc_M_slept ⟨by decide, by decide, Nat.le_refl _, Nat.le_refl _⟩
theorem lw_k30 : mj_Ka 8 room_1 600000 7302250 228 C_M_done6 := mj_KV (own := 8) (nest := false) t_M_done6 ⟨wc_X6_done, wi_X6, by decide, wl_8_76⟩ wn_X6_done ws_X6_done (c0 := 6) (by decide) rfl (by decide +kernel) rc_M_done6 ⟨by decide, by decide, Nat.le_refl _, Nat.le_refl _⟩
theorem lw_k31 : mj_Ka 8 room_1 600000 7302250 237 C_M_done := mj_KV (own := 8) (nest := false) t_M_done ⟨wc_X7_done, wi_X7, by decide, wl_8_79⟩ wn_X7_done ws_X7_done (c0 := 7) (by decide) rfl (by decide +kernel) rc_M_done ⟨by decide, by decide, Nat.le_refl _, Nat.le_refl _⟩
theorem lw_k32 : mj_Ka 8 room_1 600000 7302250 240 C_M_value6 := mj_KV (own := 8) (nest := false) t_M_value6 ⟨wc_X6_value, wi_X6, by decide, wl_8_80⟩ wn_X6_value ws_X6_value (c0 := 6) (by decide) rfl (by decide +kernel) rc_M_value6 ⟨by decide, by decide, Nat.le_refl _, Nat.le_refl _⟩
theorem lw_k33 : mj_Ka 8 room_1 600000 7302250 249 C_M_value := mj_KV (own := 8) (nest := false) t_M_value ⟨wc_X7_value, wi_X7, by decide, wl_8_83⟩ wn_X7_value ws_X7_value (c0 := 7) (by decide) rfl (by decide +kernel) rc_M_value ⟨by decide, by decide, Nat.le_refl _, Nat.le_refl _⟩
theorem lw_k34 : mj_Ka 8 room_1 600000 7302250 252 C_M_cost6 := mj_KV (own := 8) (nest := false) t_M_cost6 ⟨wc_X6_cost, wi_X6, by decide, wl_8_84⟩ wn_X6_cost ws_X6_cost (c0 := 6) (by decide) rfl (by decide +kernel) rc_M_cost6 ⟨by decide, by decide, Nat.le_refl _, Nat.le_refl _⟩
theorem lw_k35 : mj_Ka 8 room_1 600000 7302250 261 C_M_cost := mj_KV (own := 8) (nest := false) t_M_cost ⟨wc_X7_cost, wi_X7, by decide, wl_8_87⟩ wn_X7_cost ws_X7_cost (c0 := 7) (by decide) rfl (by decide +kernel) rc_M_cost ⟨by decide, by decide, Nat.le_refl _, Nat.le_refl _⟩
theorem lw_k36 : mj_Ka 8 room_1 600000 7302250 264 C_M_evening6 := mj_KV (own := 8) (nest := false) t_M_evening6 ⟨wc_X6_evening, wi_X6, by decide, wl_8_88⟩ wn_X6_evening ws_X6_evening (c0 := 6) (by decide) rfl (by decide +kernel) rc_M_evening6 ⟨by decide, by decide, Nat.le_refl _, Nat.le_refl _⟩
theorem lw_k37 : mj_Ka 8 room_1 600000 7302250 273 C_M_evening := mj_KV (own := 8) (nest := false) t_M_evening ⟨wc_X7_evening, wi_X7, by decide, wl_8_91⟩ wn_X7_evening ws_X7_evening (c0 := 7) (by decide) rfl (by decide +kernel) rc_M_evening ⟨by decide, by decide, Nat.le_refl _, Nat.le_refl _⟩
theorem lw_k38 : mj_Ka 8 room_1 600000 7302250 276 C_M_often6 := mj_KV (own := 8) (nest := false) t_M_often6 ⟨wc_X6_often, wi_X6, by decide, wl_8_92⟩ wn_X6_often ws_X6_often (c0 := 6) (by decide) rfl (by decide +kernel) rc_M_often6 ⟨by decide, by decide, Nat.le_refl _, Nat.le_refl _⟩
theorem lw_k39 : mj_Ka 8 room_1 600000 7302250 285 C_M_often := mj_KV (own := 8) (nest := false) t_M_often ⟨wc_X7_often, wi_X7, by decide, wl_8_95⟩ wn_X7_often ws_X7_often (c0 := 7) (by decide) rfl (by decide +kernel) rc_M_often ⟨by decide, by decide, Nat.le_refl _, Nat.le_refl _⟩
theorem lw_k40 : mj_Ka 8 room_1 600000 7302250 288 C_M_hears6 := mj_KV (own := 8) (nest := false) t_M_hears6 ⟨wc_X6_hears, wi_X6, by decide, wl_8_96⟩ wn_X6_hears ws_X6_hears (c0 := 6) (by decide) rfl (by decide +kernel) rc_M_hears6 ⟨by decide, by decide, Nat.le_refl _, Nat.le_refl _⟩
theorem lw_k41 : mj_Ka 8 room_1 600000 7302250 297 C_M_hears := mj_KV (own := 8) (nest := false) t_M_hears ⟨wc_X7_hears, wi_X7, by decide, wl_8_99⟩ wn_X7_hears ws_X7_hears (c0 := 7) (by decide) rfl (by decide +kernel) rc_M_hears ⟨by decide, by decide, Nat.le_refl _, Nat.le_refl _⟩
theorem lw_k42 : mj_Ka 8 room_1 600000 7302250 300 C_M_silent6 := mj_KV (own := 8) (nest := false) t_M_silent6 ⟨wc_X6_silent, wi_X6, by decide, wl_8_100⟩ wn_X6_silent ws_X6_silent (c0 := 6) (by decide) rfl (by decide +kernel) rc_M_silent6 ⟨by decide, by decide, Nat.le_refl _, Nat.le_refl _⟩
theorem lw_k43 : mj_Ka 8 room_1 600000 7302250 309 C_M_silent := mj_KV (own := 8) (nest := false) t_M_silent ⟨wc_X7_silent, wi_X7, by decide, wl_8_103⟩ wn_X7_silent ws_X7_silent (c0 := 7) (by decide) rfl (by decide +kernel) rc_M_silent ⟨by decide, by decide, Nat.le_refl _, Nat.le_refl _⟩
theorem lw_k44 : mj_Ka 8 room_1 600000 7302250 312 C_M_bet6 := mj_KV (own := 8) (nest := false) t_M_bet6 ⟨wc_X6_bet, wi_X6, by decide, wl_8_104⟩ wn_X6_bet ws_X6_bet (c0 := 6) (by decide) rfl (by decide +kernel) rc_M_bet6 ⟨by decide, by decide, Nat.le_refl _, Nat.le_refl _⟩
theorem lw_k45 : mj_Ka 8 room_1 600000 7302250 321 C_M_bet := mj_KV (own := 8) (nest := false) t_M_bet ⟨wc_X7_bet, wi_X7, by decide, wl_8_107⟩ wn_X7_bet ws_X7_bet (c0 := 7) (by decide) rfl (by decide +kernel) rc_M_bet ⟨by decide, by decide, Nat.le_refl _, Nat.le_refl _⟩
theorem lw_k46 : mj_Ka 8 room_1 600000 7302250 324 C_M_leans6 := mj_KV (own := 8) (nest := false) t_M_leans6 ⟨wc_X6_leans, wi_X6, by decide, wl_8_108⟩ wn_X6_leans ws_X6_leans (c0 := 6) (by decide) rfl (by decide +kernel) rc_M_leans6 ⟨by decide, by decide, Nat.le_refl _, Nat.le_refl _⟩
theorem lw_k47 : mj_Ka 8 room_1 600000 7302250 333 C_M_leans := mj_KV (own := 8) (nest := false) t_M_leans ⟨wc_X7_leans, wi_X7, by decide, wl_8_111⟩ wn_X7_leans ws_X7_leans (c0 := 7) (by decide) rfl (by decide +kernel) rc_M_leans ⟨by decide, by decide, Nat.le_refl _, Nat.le_refl _⟩
theorem lw_k48 : mj_Ka 8 room_1 600000 7302250 336 C_M_back6 := mj_KV (own := 8) (nest := false) t_M_back6 ⟨wc_X6_back, wi_X6, by decide, wl_8_112⟩ wn_X6_back ws_X6_back (c0 := 6) (by decide) rfl (by decide +kernel) rc_M_back6 ⟨by decide, by decide, Nat.le_refl _, Nat.le_refl _⟩
theorem lw_k49 : mj_Ka 8 room_1 600000 7302250 345 C_M_back := mj_KV (own := 8) (nest := false) t_M_back ⟨wc_X7_back, wi_X7, by decide, wl_8_115⟩ wn_X7_back ws_X7_back (c0 := 7) (by decide) rfl (by decide +kernel) rc_M_back ⟨by decide, by decide, Nat.le_refl _, Nat.le_refl _⟩
theorem lw_k50 : mj_Ka 8 room_1 600000 7302250 348 C_M_moment6 := mj_KV (own := 8) (nest := false) t_M_moment6 ⟨wc_X6_moment, wi_X6, by decide, wl_8_116⟩ wn_X6_moment ws_X6_moment (c0 := 6) (by decide) rfl (by decide +kernel) rc_M_moment6 ⟨by decide, by decide, Nat.le_refl _, Nat.le_refl _⟩
theorem lw_k51 : mj_Ka 8 room_1 600000 7302250 360 C_M_moment := mj_KV (own := 8) (nest := false) t_M_moment ⟨wc_X7_moment, wi_X7, by decide, wl_8_120⟩ wn_X7_moment ws_X7_moment (c0 := 7) (by decide) rfl (by decide +kernel) rc_M_moment ⟨by decide, by decide, Nat.le_refl _, Nat.le_refl _⟩
theorem lw_k52 : mj_Ka 8 room_1 600000 7302250 363 C_M_week6 := mj_KV (own := 8) (nest := false) t_M_week6 ⟨wc_X6_week, wi_X6, by decide, wl_8_121⟩ wn_X6_week ws_X6_week (c0 := 6) (by decide) rfl (by decide +kernel) rc_M_week6 ⟨by decide, by decide, Nat.le_refl _, Nat.le_refl _⟩
theorem lw_k53 : mj_Ka 8 room_1 600000 7302250 372 C_M_week := mj_KV (own := 8) (nest := false) t_M_week ⟨wc_X7_week, wi_X7, by decide, wl_8_124⟩ wn_X7_week ws_X7_week (c0 := 7) (by decide) rfl (by decide +kernel) rc_M_week ⟨by decide, by decide, Nat.le_refl _, Nat.le_refl _⟩
theorem lw_k54 : mj_Ka 8 room_1 600000 7302250 375 C_M_row6 := mj_KV (own := 8) (nest := false) t_M_row6 ⟨wc_X6_row, wi_X6, by decide, wl_8_125⟩ wn_X6_row ws_X6_row (c0 := 6) (by decide) rfl (by decide +kernel) rc_M_row6 ⟨by decide, by decide, Nat.le_refl _, Nat.le_refl _⟩
theorem lw_k55 : mj_Ka 8 room_1 600000 7302250 384 C_M_row := mj_KV (own := 8) (nest := false) t_M_row ⟨wc_X7_row, wi_X7, by decide, wl_8_128⟩ wn_X7_row ws_X7_row (c0 := 7) (by decide) rfl (by decide +kernel) rc_M_row ⟨by decide, by decide, Nat.le_refl _, Nat.le_refl _⟩
theorem lw_k56 : mj_Ka 8 room_1 600000 7302250 387 C_M_judge6 := mj_KV (own := 8) (nest := false) t_M_judge6 ⟨wc_X6_judge, wi_X6, by decide, wl_8_129⟩ wn_X6_judge ws_X6_judge (c0 := 6) (by decide) rfl (by decide +kernel) rc_M_judge6 ⟨by decide, by decide, Nat.le_refl _, Nat.le_refl _⟩
theorem lw_k57 : mj_Ka 8 room_1 600000 7302250 396 C_M_judge := mj_KV (own := 8) (nest := false) t_M_judge ⟨wc_X7_judge, wi_X7, by decide, wl_8_132⟩ wn_X7_judge ws_X7_judge (c0 := 7) (by decide) rfl (by decide +kernel) rc_M_judge ⟨by decide, by decide, Nat.le_refl _, Nat.le_refl _⟩
theorem lw_k58 : mj_Ka 8 room_1 600000 7302250 399 C_M_firms6 := mj_KV (own := 8) (nest := false) t_M_firms6 ⟨wc_X6_firms, wi_X6, by decide, wl_8_133⟩ wn_X6_firms ws_X6_firms (c0 := 6) (by decide) rfl (by decide +kernel) rc_M_firms6 ⟨by decide, by decide, Nat.le_refl _, Nat.le_refl _⟩
theorem lw_k59 : mj_Ka 8 room_1 600000 7302250 408 C_M_firms := mj_KV (own := 8) (nest := false) t_M_firms ⟨wc_X7_firms, wi_X7, by decide, wl_8_136⟩ wn_X7_firms ws_X7_firms (c0 := 7) (by decide) rfl (by decide +kernel) rc_M_firms ⟨by decide, by decide, Nat.le_refl _, Nat.le_refl _⟩
theorem lw_k60 : mj_Ka 8 room_1 600000 7302250 411 C_M_clear6 := mj_KV (own := 8) (nest := false) t_M_clear6 ⟨wc_X6_clear, wi_X6, by decide, wl_8_137⟩ wn_X6_clear ws_X6_clear (c0 := 6) (by decide) rfl (by decide +kernel) rc_M_clear6 ⟨by decide, by decide, Nat.le_refl _, Nat.le_refl _⟩
theorem lw_k61 : mj_Ka 8 room_1 600000 7302250 420 C_M_clear := mj_KV (own := 8) (nest := false) t_M_clear ⟨wc_X7_clear, wi_X7, by decide, wl_8_140⟩ wn_X7_clear ws_X7_clear (c0 := 7) (by decide) rfl (by decide +kernel) rc_M_clear ⟨by decide, by decide, Nat.le_refl _, Nat.le_refl _⟩
theorem lw_k62 : mj_Ka 8 room_1 600000 7302250 423 C_M_lots6 := mj_KV (own := 8) (nest := false) t_M_lots6 ⟨wc_X6_lots, wi_X6, by decide, wl_8_141⟩ wn_X6_lots ws_X6_lots (c0 := 6) (by decide) rfl (by decide +kernel) rc_M_lots6 ⟨by decide, by decide, Nat.le_refl _, Nat.le_refl _⟩
theorem lw_k63 : mj_Ka 8 room_1 600000 7302250 432 C_M_lots := mj_KV (own := 8) (nest := false) t_M_lots ⟨wc_X7_lots, wi_X7, by decide, wl_8_144⟩ wn_X7_lots ws_X7_lots (c0 := 7) (by decide) rfl (by decide +kernel) rc_M_lots ⟨by decide, by decide, Nat.le_refl _, Nat.le_refl _⟩
theorem lw_k64 : mj_Ka 8 room_1 600000 7302250 435 C_M_image6 := mj_KV (own := 8) (nest := false) t_M_image6 ⟨wc_X6_image, wi_X6, by decide, wl_8_145⟩ wn_X6_image ws_X6_image (c0 := 6) (by decide) rfl (by decide +kernel) rc_M_image6 ⟨by decide, by decide, Nat.le_refl _, Nat.le_refl _⟩
theorem lw_k65 : mj_Ka 8 room_1 600000 7302250 444 C_M_image := mj_KV (own := 8) (nest := false) t_M_image ⟨wc_X7_image, wi_X7, by decide, wl_8_148⟩ wn_X7_image ws_X7_image (c0 := 7) (by decide) rfl (by decide +kernel) rc_M_image ⟨by decide, by decide, Nat.le_refl _, Nat.le_refl _⟩
theorem lw_k66 : mj_Ka 8 room_1 600000 7302250 447 C_M_on6 := mj_KV (own := 8) (nest := false) t_M_on6 ⟨wc_X6_on, wi_X6, by decide, wl_8_149⟩ wn_X6_on ws_X6_on (c0 := 6) (by decide) rfl (by decide +kernel) rc_M_on6 ⟨by decide, by decide, Nat.le_refl _, Nat.le_refl _⟩
theorem lw_k67 : mj_Ka 8 room_1 600000 7302250 456 C_M_on := mj_KV (own := 8) (nest := false) t_M_on ⟨wc_X7_on, wi_X7, by decide, wl_8_152⟩ wn_X7_on ws_X7_on (c0 := 7) (by decide) rfl (by decide +kernel) rc_M_on ⟨by decide, by decide, Nat.le_refl _, Nat.le_refl _⟩
theorem lw_k68 : mj_Ka 8 room_1 600000 7302250 459 C_M_count6 := mj_KV (own := 8) (nest := false) t_M_count6 ⟨wc_X6_count, wi_X6, by decide, wl_8_153⟩ wn_X6_count ws_X6_count (c0 := 6) (by decide) rfl (by decide +kernel) rc_M_count6 ⟨by decide, by decide, Nat.le_refl _, Nat.le_refl _⟩
theorem lw_k69 : mj_Ka 8 room_1 600000 7302250 468 C_M_count := mj_KV (own := 8) (nest := false) t_M_count ⟨wc_X7_count, wi_X7, by decide, wl_8_156⟩ wn_X7_count ws_X7_count (c0 := 7) (by decide) rfl (by decide +kernel) rc_M_count ⟨by decide, by decide, Nat.le_refl _, Nat.le_refl _⟩
theorem lw_l39 : lw_it.lookup 39 = some C_M_letter6 := rfl
theorem lw_l51 : lw_it.lookup 51 = some C_M_letter := rfl
theorem lw_l54 : lw_it.lookup 54 = some C_M_room6 := rfl
theorem lw_l66 : lw_it.lookup 66 = some C_M_room := rfl
theorem lw_l69 : lw_it.lookup 69 = some C_M_sleeper6 := rfl
theorem lw_l81 : lw_it.lookup 81 = some C_M_sleeper := rfl
theorem lw_l84 : lw_it.lookup 84 = some C_M_clock6 := rfl
theorem lw_l93 : lw_it.lookup 93 = some C_M_clock := rfl
theorem lw_l96 : lw_it.lookup 96 = some C_M_task6 := rfl
theorem lw_l105 : lw_it.lookup 105 = some C_M_task := rfl
theorem lw_l108 : lw_it.lookup 108 = some C_M_set6 := rfl
theorem lw_l117 : lw_it.lookup 117 = some C_M_set := rfl
theorem lw_l120 : lw_it.lookup 120 = some C_M_every6 := rfl
theorem lw_l129 : lw_it.lookup 129 = some C_M_every := rfl
theorem lw_l132 : lw_it.lookup 132 = some C_M_firm6 := rfl
theorem lw_l141 : lw_it.lookup 141 = some C_M_firm := rfl
theorem lw_l144 : lw_it.lookup 144 = some C_M_bus6 := rfl
theorem lw_l153 : lw_it.lookup 153 = some C_M_bus := rfl
theorem lw_l156 : lw_it.lookup 156 = some C_M_tired6 := rfl
theorem lw_l165 : lw_it.lookup 165 = some C_M_tired := rfl
theorem lw_l168 : lw_it.lookup 168 = some C_M_night6 := rfl
theorem lw_l177 : lw_it.lookup 177 = some C_M_night := rfl
theorem lw_l180 : lw_it.lookup 180 = some C_M_depth6 := rfl
theorem lw_l189 : lw_it.lookup 189 = some C_M_depth := rfl
theorem lw_l192 : lw_it.lookup 192 = some C_M_up6 := rfl
theorem lw_l201 : lw_it.lookup 201 = some C_M_up := rfl
theorem lw_l204 : lw_it.lookup 204 = some C_M_presses6 := rfl
theorem lw_l213 : lw_it.lookup 213 = some C_M_presses := rfl
theorem lw_l216 : lw_it.lookup 216 = some C_M_slept6 := rfl
theorem lw_l225 : lw_it.lookup 225 = some C_M_slept := rfl
theorem lw_l228 : lw_it.lookup 228 = some C_M_done6 := rfl
theorem lw_l237 : lw_it.lookup 237 = some C_M_done := rfl
theorem lw_l240 : lw_it.lookup 240 = some C_M_value6 := rfl
theorem lw_l249 : lw_it.lookup 249 = some C_M_value := rfl
theorem lw_l252 : lw_it.lookup 252 = some C_M_cost6 := rfl
theorem lw_l261 : lw_it.lookup 261 = some C_M_cost := rfl
theorem lw_l264 : lw_it.lookup 264 = some C_M_evening6 := rfl
theorem lw_l273 : lw_it.lookup 273 = some C_M_evening := rfl
theorem lw_l276 : lw_it.lookup 276 = some C_M_often6 := rfl
theorem lw_l285 : lw_it.lookup 285 = some C_M_often := rfl
theorem lw_l288 : lw_it.lookup 288 = some C_M_hears6 := rfl
theorem lw_l297 : lw_it.lookup 297 = some C_M_hears := rfl
theorem lw_l300 : lw_it.lookup 300 = some C_M_silent6 := rfl
theorem lw_l309 : lw_it.lookup 309 = some C_M_silent := rfl
theorem lw_l312 : lw_it.lookup 312 = some C_M_bet6 := rfl
theorem lw_l321 : lw_it.lookup 321 = some C_M_bet := rfl
theorem lw_l324 : lw_it.lookup 324 = some C_M_leans6 := rfl
theorem lw_l333 : lw_it.lookup 333 = some C_M_leans := rfl
theorem lw_l336 : lw_it.lookup 336 = some C_M_back6 := rfl
theorem lw_l345 : lw_it.lookup 345 = some C_M_back := rfl
theorem lw_l348 : lw_it.lookup 348 = some C_M_moment6 := rfl
theorem lw_l360 : lw_it.lookup 360 = some C_M_moment := rfl
theorem lw_l363 : lw_it.lookup 363 = some C_M_week6 := rfl
theorem lw_l372 : lw_it.lookup 372 = some C_M_week := rfl
theorem lw_l375 : lw_it.lookup 375 = some C_M_row6 := rfl
theorem lw_l384 : lw_it.lookup 384 = some C_M_row := rfl
theorem lw_l387 : lw_it.lookup 387 = some C_M_judge6 := rfl
theorem lw_l396 : lw_it.lookup 396 = some C_M_judge := rfl
theorem lw_l399 : lw_it.lookup 399 = some C_M_firms6 := rfl
theorem lw_l408 : lw_it.lookup 408 = some C_M_firms := rfl
theorem lw_l411 : lw_it.lookup 411 = some C_M_clear6 := rfl
theorem lw_l420 : lw_it.lookup 420 = some C_M_clear := rfl
theorem lw_l423 : lw_it.lookup 423 = some C_M_lots6 := rfl
theorem lw_l432 : lw_it.lookup 432 = some C_M_lots := rfl
theorem lw_l435 : lw_it.lookup 435 = some C_M_image6 := rfl
theorem lw_l444 : lw_it.lookup 444 = some C_M_image := rfl
theorem lw_l447 : lw_it.lookup 447 = some C_M_on6 := rfl
theorem lw_l456 : lw_it.lookup 456 = some C_M_on := rfl
theorem lw_l459 : lw_it.lookup 459 = some C_M_count6 := rfl
theorem lw_l468 : lw_it.lookup 468 = some C_M_count := rfl
set_option maxRecDepth 20000 in
theorem lw_itk : ∀ q ∈ lw_it, mj_Ka 8 room_1 600000 7302250 q.1 q.2 := List.forall_mem_cons.mpr ⟨lw_k0, List.forall_mem_cons.mpr ⟨lw_k1, List.forall_mem_cons.mpr ⟨lw_k2, List.forall_mem_cons.mpr ⟨lw_k3, List.forall_mem_cons.mpr ⟨lw_k4, List.forall_mem_cons.mpr ⟨lw_k5, List.forall_mem_cons.mpr ⟨lw_k6, List.forall_mem_cons.mpr ⟨lw_k7, List.forall_mem_cons.mpr ⟨lw_k8, List.forall_mem_cons.mpr ⟨lw_k9, List.forall_mem_cons.mpr ⟨lw_k10, List.forall_mem_cons.mpr ⟨lw_k11, List.forall_mem_cons.mpr ⟨lw_k12, List.forall_mem_cons.mpr ⟨lw_k13, List.forall_mem_cons.mpr ⟨lw_k14, List.forall_mem_cons.mpr ⟨lw_k15, List.forall_mem_cons.mpr ⟨lw_k16, List.forall_mem_cons.mpr ⟨lw_k17, List.forall_mem_cons.mpr ⟨lw_k18, List.forall_mem_cons.mpr ⟨lw_k19, List.forall_mem_cons.mpr ⟨lw_k20, List.forall_mem_cons.mpr ⟨lw_k21, List.forall_mem_cons.mpr ⟨lw_k22, List.forall_mem_cons.mpr ⟨lw_k23, List.forall_mem_cons.mpr ⟨lw_k24, List.forall_mem_cons.mpr ⟨lw_k25, List.forall_mem_cons.mpr ⟨lw_k26, List.forall_mem_cons.mpr ⟨lw_k27, List.forall_mem_cons.mpr ⟨lw_k28, List.forall_mem_cons.mpr ⟨lw_k29, List.forall_mem_cons.mpr ⟨lw_k30, List.forall_mem_cons.mpr ⟨lw_k31, List.forall_mem_cons.mpr ⟨lw_k32, List.forall_mem_cons.mpr ⟨lw_k33, List.forall_mem_cons.mpr ⟨lw_k34, List.forall_mem_cons.mpr ⟨lw_k35, List.forall_mem_cons.mpr ⟨lw_k36, List.forall_mem_cons.mpr ⟨lw_k37, List.forall_mem_cons.mpr ⟨lw_k38, List.forall_mem_cons.mpr ⟨lw_k39, List.forall_mem_cons.mpr ⟨lw_k40, List.forall_mem_cons.mpr ⟨lw_k41, List.forall_mem_cons.mpr ⟨lw_k42, List.forall_mem_cons.mpr ⟨lw_k43, List.forall_mem_cons.mpr ⟨lw_k44, List.forall_mem_cons.mpr ⟨lw_k45, List.forall_mem_cons.mpr ⟨lw_k46, List.forall_mem_cons.mpr ⟨lw_k47, List.forall_mem_cons.mpr ⟨lw_k48, List.forall_mem_cons.mpr ⟨lw_k49, List.forall_mem_cons.mpr ⟨lw_k50, List.forall_mem_cons.mpr ⟨lw_k51, List.forall_mem_cons.mpr ⟨lw_k52, List.forall_mem_cons.mpr ⟨lw_k53, List.forall_mem_cons.mpr ⟨lw_k54, List.forall_mem_cons.mpr ⟨lw_k55, List.forall_mem_cons.mpr ⟨lw_k56, List.forall_mem_cons.mpr ⟨lw_k57, List.forall_mem_cons.mpr ⟨lw_k58, List.forall_mem_cons.mpr ⟨lw_k59, List.forall_mem_cons.mpr ⟨lw_k60, List.forall_mem_cons.mpr ⟨lw_k61, List.forall_mem_cons.mpr ⟨lw_k62, List.forall_mem_cons.mpr ⟨lw_k63, List.forall_mem_cons.mpr ⟨lw_k64, List.forall_mem_cons.mpr ⟨lw_k65, List.forall_mem_cons.mpr ⟨lw_k66, List.forall_mem_cons.mpr ⟨lw_k67, List.forall_mem_cons.mpr ⟨lw_k68, List.forall_mem_cons.mpr ⟨lw_k69, (fun _ h => absurd h List.not_mem_nil)⟩⟩⟩⟩⟩⟩⟩⟩⟩⟩⟩⟩⟩⟩⟩⟩⟩⟩⟩⟩⟩⟩⟩⟩⟩⟩⟩⟩⟩⟩⟩⟩⟩⟩⟩⟩⟩⟩⟩⟩⟩⟩⟩⟩⟩⟩⟩⟩⟩⟩⟩⟩⟩⟩⟩⟩⟩⟩⟩⟩⟩⟩⟩⟩⟩⟩⟩⟩⟩⟩
theorem xa_400 : mj_ak 400 = 4 := rfl
theorem xn_400 {sx : mj_Sx} : mj_ln sx 400 = sx.2.1 := rfl
theorem xq_400 {sx : mj_Sx} {M : mj_M} {j : Nat} : mj_cq sx M 400 j = sx.2.2 j := rfl
theorem mS_f2 {M M1 : mj_M} (h : fr2 M M1) : mS M1 = mS M := mS_eq (h _ (by decide)) (h _ (by decide)) (h _ (by decide)) (h _ (by decide)) (h _ (by decide)) (congrFun (h _ (by decide)) _) (congrFun (h _ (by decide)) _) (congrFun (h _ (by decide)) _)
theorem cS_f1 {M M1 : mj_M} (h : fr1 M M1) : cS M1 = cS M := by
  have e0 : rv M1 0 = rv M 0 := rv_e fun k hk => h k (by omega)
  have e1 : rv M1 36 = rv M 36 := rv_e fun k hk => h k (by omega)
  have e60 := h 60 (by omega)
  refine cS_ext ?_ ?_ (h 58 (by omega)) (h 61 (by omega)) (h 62 (by omega)) ?_ ?_ ?_ (fun _ => rfl) (fun _ _ => rfl)
  · exact e0
  · rw [e60, e1]; rfl
  · rw [e60]; rfl
  · rw [h 57 (by omega)]; rfl
  · rw [e60]; rfl

abbrev lw_L (i : Int32) : mj_L := [some (.inr 400), some (.inr 60), some (.inr 63), some (.inl i)]
def lw_A (N : Nat) (xs : Nat → Int32) (i j v : Int32) : Prop := vp_in (i + j) N ∧ xs (i + j).toNatClampNeg = v
section LW
variable {it : List (Nat × mj_C)} {rk N : Nat} {xs : Nat → Int32} {J : Nat → mj_L → mj_S → mj_M → Prop} {Rt : mj_V → mj_M → Prop} {t : List mj_O} {e : Nat} {st r : mj_S} {M : mj_M} {i j v : Int32}
theorem lw_o1 (h : mj_W it rk (true, N, xs) J Rt t e (lw_L i) (.inr 60 :: st) M) : mj_W it rk (true, N, xs) J Rt ((4, 1, 0, 0, []) :: t) e (lw_L i) st M := h
theorem lw_o2 (h : mj_W it rk (true, N, xs) J Rt t e (lw_L i) (.inr 63 :: st) M) : mj_W it rk (true, N, xs) J Rt ((4, 2, 0, 0, []) :: t) e (lw_L i) st M := h
theorem lw_arg (a : lw_A N xs i j v) (h : mj_W it rk (true, N, xs) J Rt t e (lw_L i) (.inl v :: st) M) : mj_W it rk (true, N, xs) J Rt ((4, 0, 0, 0, []) :: (3, 3, 0, 0, []) :: (1, 0, 0, j, []) :: (10, 0, 0, 0, []) :: (60, 0, 0, 0, []) :: t) e (lw_L i) st M := by
  obtain ⟨hx, rfl⟩ := a
  exact ⟨Or.inr (Or.inr ⟨rfl, rfl⟩), hx, h⟩
theorem lw_call {sx : mj_Sx} {L : mj_L} {K : Nat} {cl : mj_C} {avs : List mj_V} (hl : it.lookup K = some cl) (hk : cl.2.1 = 1) (ht : ∀ f : List mj_V → mj_S → Prop, f avs r → mj_ta cl.1 st [] f) (hr : r.length ≤ 8) (hp : cl.2.2.1 avs M) (h : ∀ (x : Int32) (M1 : mj_M), cl.2.2.2 avs M (.inl x) M1 → mj_W it rk sx J Rt t e L (.inl x :: r) M1) : mj_W it rk sx J Rt ((70, K, 0, 0, []) :: t) e L st M := by
  show (match it.lookup K with
    | some cl => mj_ta cl.1 st [] fun avs r => r.length ≤ 8 ∧ cl.2.2.1 avs M ∧ mj_rt cl.2.1 (cl.2.2.2 avs M) r fun r' M' => mj_W it rk sx J Rt t e L r' M'
    | none => False)
  rw [hl]
  refine ht _ ⟨hr, hp, ?_⟩
  rw [hk]
  exact h
theorem lw_end {x y : Int32} (h : x = y) (k : J 1123 (lw_L i) [] M) : mj_W it rk (true, N, xs) J Rt [(36, 1123, 0, 0, []), (1, 0, 0, 0, []), (80, 0, 0, 0, [])] e (lw_L i) [.inl y, .inl x] M := ⟨fun _ => k, fun z => absurd h z⟩
end LW

theorem lw_two {M M1 M2 : mj_M} {G : mj_M → Int32 × mj_M} {x y : Int32} (hc : cS M = mS M) (h1 : (Sum.inl x : mj_V) = .inl (G (cS M)).1 ∧ cS M1 = (G (cS M)).2 ∧ fr2 M M1) (h2 : (Sum.inl y : mj_V) = .inl (G (mS M1)).1 ∧ mS M2 = (G (mS M1)).2 ∧ fr1 M1 M2) (hk : dS (G (mS M)).2) : x = y ∧ cS M2 = mS M2 ∧ dS (mS M2) := by
  obtain ⟨a1, a2, a3⟩ := h1
  obtain ⟨b1, b2, b3⟩ := h2
  have a1 := Sum.inl.inj a1
  have b1 := Sum.inl.inj b1
  rw [mS_f2 a3] at b1 b2
  rw [hc] at a1 a2
  refine ⟨a1.trans b1.symm, ?_, by rw [b2]; exact hk⟩
  rw [cS_f1 b3, a2, b2]
theorem nI_2p (k : Nat) : nI k + 2 = nI (k + 2) := by
  rw [show (2 : Int32) = 1 + 1 from rfl, ← Int32.add_assoc, nI_1, nI_1]
theorem nI_3p (k : Nat) : nI k + 3 = nI (k + 3) := by
  rw [show (3 : Int32) = 2 + 1 from rfl, ← Int32.add_assoc, nI_2p, nI_1]
theorem nI_4p (k : Nat) : nI k + 4 = nI (k + 4) := by
  rw [show (4 : Int32) = 3 + 1 from rfl, ← Int32.add_assoc, nI_3p, nI_1]

