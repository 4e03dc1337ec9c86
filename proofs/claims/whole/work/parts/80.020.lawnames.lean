theorem inJ9 : ∀ w ∈ wsJ90, w ∈ lw_tbl := by decide +kernel
theorem inJ10 : ∀ w ∈ wsJ100, w ∈ lw_tbl := by decide +kernel
theorem inJ7 : ∀ w ∈ wsJ70, w ∈ lw_tbl := by decide +kernel
set_option maxRecDepth 20000 in
theorem ggL_law_X7_init : GoodIn wsL_law wsX7_init := goodIn_r _ [9, 10, 11, 12, 13, 14, 15, 16, 17, 18, 19, 20, 21, 22, 23, 24, 25, 26, 27, 28, 29, 30, 31, 32, 33, 34, 35, 36, 37, 38, 39, 40, 41, 42, 43, 44, 45, 46, 47, 48, 49, 50, 51, 52, 53, 54, 55, 56, 57, 58, 59, 60, 61, 62, 63, 64, 65, 66, 67, 68, 69, 70, 71, 72, 73, 74, 75, 76, 77, 78, 79, 80, 81, 82, 83, 84, 85, 86, 87, 88, 89, 90, 91, 92, 93, 94, 95, 96, 97, 98, 99, 100, 101, 102, 791, 792, 793, 760, 761, 762, 763, 764, 765, 766, 767, 794, 795, 796, 797, 798, 799, 800, 801, 802, 803, 804, 805, 806, 807, 808, 809, 810, 811, 812, 813, 814, 815, 816] (by decide +kernel) (by decide +kernel)
set_option maxRecDepth 20000 in
theorem gL_law_X7_init : GoodIn wsL_law (wsX7_init) := ggL_law_X7_init
set_option maxRecDepth 20000 in
theorem ggL_law_X8_init : GoodIn wsL_law wsX8_init := goodIn_r _ [105, 106, 11, 12, 107, 48, 108, 109, 46, 110, 111, 112, 113, 114, 115, 116, 117, 118, 119, 120, 121, 122, 123, 124, 125, 126, 768, 769, 770, 771, 772, 773, 774, 775, 776, 777, 778, 779, 780, 781, 782, 783, 784, 785, 786, 787, 788, 789, 790] (by decide +kernel) (by decide +kernel)
set_option maxRecDepth 20000 in
theorem gL_law_X8_init : GoodIn wsL_law (wsX8_init) := ggL_law_X8_init
set_option maxRecDepth 20000 in
theorem ggL_law_X7_status : GoodIn wsL_law wsX7_status := goodIn_r _ [130, 41, 760, 761, 762, 763, 764, 765, 766, 767] (by decide +kernel) (by decide +kernel)
set_option maxRecDepth 20000 in
theorem gL_law_X7_status : GoodIn wsL_law (wsV RL 13 RX7 yX7_status wsX7_status) := goodIn_app (goodIn_of _ (by decide +kernel)) ggL_law_X7_status
set_option maxRecDepth 20000 in
theorem ggL_law_X8_status : GoodIn wsL_law wsX8_status := goodIn_r _ [134, 135, 768, 769, 770, 771, 772, 773, 774, 775, 776, 777, 778, 779, 780, 781, 782, 783, 784, 785, 786, 787, 788, 789, 790] (by decide +kernel) (by decide +kernel)
set_option maxRecDepth 20000 in
theorem gL_law_X8_status : GoodIn wsL_law (wsV RL 17 RX8 yX8_status wsX8_status) := goodIn_app (goodIn_of _ (by decide +kernel)) ggL_law_X8_status
set_option maxRecDepth 20000 in
theorem ggL_law_X7_top : GoodIn wsL_law wsX7_top := goodIn_r _ [139, 40, 760, 761, 762, 763, 764, 765, 766, 767, 815, 816] (by decide +kernel) (by decide +kernel)
set_option maxRecDepth 20000 in
theorem gL_law_X7_top : GoodIn wsL_law (wsV RL 18 RX7 yX7_top wsX7_top) := goodIn_app (goodIn_of _ (by decide +kernel)) ggL_law_X7_top
set_option maxRecDepth 20000 in
theorem ggL_law_X8_top : GoodIn wsL_law wsX8_top := goodIn_r _ [143, 144, 768, 769, 770, 771, 772, 773, 774, 775, 776, 777, 778, 779, 780, 781, 782, 783, 784, 785, 786, 787, 788, 789, 790] (by decide +kernel) (by decide +kernel)
set_option maxRecDepth 20000 in
theorem gL_law_X8_top : GoodIn wsL_law (wsV RL 22 RX8 yX8_top wsX8_top) := goodIn_app (goodIn_of _ (by decide +kernel)) ggL_law_X8_top
set_option maxRecDepth 20000 in
theorem ggL_law_X7_bottom : GoodIn wsL_law wsX7_bottom := goodIn_r _ [148, 40, 760, 761, 762, 763, 764, 765, 766, 767, 815, 816] (by decide +kernel) (by decide +kernel)
set_option maxRecDepth 20000 in
theorem gL_law_X7_bottom : GoodIn wsL_law (wsV RL 23 RX7 yX7_bottom wsX7_bottom) := goodIn_app (goodIn_of _ (by decide +kernel)) ggL_law_X7_bottom
set_option maxRecDepth 20000 in
theorem ggL_law_X8_bottom : GoodIn wsL_law wsX8_bottom := goodIn_r _ [152, 107, 768, 769, 770, 771, 772, 773, 774, 775, 776, 777, 778, 779, 780, 781, 782, 783, 784, 785, 786, 787, 788, 789, 790] (by decide +kernel) (by decide +kernel)
set_option maxRecDepth 20000 in
theorem gL_law_X8_bottom : GoodIn wsL_law (wsV RL 26 RX8 yX8_bottom wsX8_bottom) := goodIn_app (goodIn_of _ (by decide +kernel)) ggL_law_X8_bottom
set_option maxRecDepth 20000 in
theorem ggL_law_X7_tray : GoodIn wsL_law wsX7_tray := goodIn_r _ [156, 16, 157, 158, 2, 159, 160, 161, 15, 162, 163, 164, 165, 166, 41, 167, 168, 169, 170, 49, 50, 47, 171, 172, 53, 173, 174, 175, 176, 177, 178, 179, 180, 760, 761, 762, 763, 764, 765, 766, 767, 791, 792, 793] (by decide +kernel) (by decide +kernel)
set_option maxRecDepth 20000 in
theorem gL_law_X7_tray : GoodIn wsL_law (wsV RL 27 RX7 yX7_tray wsX7_tray) := goodIn_app (goodIn_of _ (by decide +kernel)) ggL_law_X7_tray
set_option maxRecDepth 20000 in
theorem ggL_law_X8_tray : GoodIn wsL_law wsX8_tray := goodIn_r _ [184, 108, 109, 110, 185, 186, 5, 187, 188, 189, 190, 191, 135, 768, 769, 770, 771, 772, 773, 774, 775, 776, 777, 778, 779, 780, 781, 782, 783, 784, 785, 786, 787, 788, 789, 790] (by decide +kernel) (by decide +kernel)
set_option maxRecDepth 20000 in
theorem gL_law_X8_tray : GoodIn wsL_law (wsV RL 31 RX8 yX8_tray wsX8_tray) := goodIn_app (goodIn_of _ (by decide +kernel)) ggL_law_X8_tray
set_option maxRecDepth 20000 in
theorem ggL_law_X7_write : GoodIn wsL_law wsX7_write := goodIn_r _ [195, 16, 196, 197, 198, 15, 199, 50, 158, 2, 159, 200, 201, 202, 203, 49, 163, 164, 165, 166, 41, 204, 205, 206, 207, 47, 208, 209, 210, 177, 178, 179, 180, 760, 761, 762, 763, 764, 765, 766, 767, 791, 792, 793] (by decide +kernel) (by decide +kernel)
set_option maxRecDepth 20000 in
theorem gL_law_X7_write : GoodIn wsL_law (wsV RL 34 RX7 yX7_write wsX7_write) := goodIn_app (goodIn_of _ (by decide +kernel)) ggL_law_X7_write
set_option maxRecDepth 20000 in
theorem ggL_law_X8_write : GoodIn wsL_law wsX8_write := goodIn_r _ [214, 110, 108, 215, 216, 217, 5, 218, 109, 185, 186, 187, 219, 220, 221, 188, 189, 190, 191, 135, 768, 769, 770, 771, 772, 773, 774, 775, 776, 777, 778, 779, 780, 781, 782, 783, 784, 785, 786, 787, 788, 789, 790] (by decide +kernel) (by decide +kernel)
set_option maxRecDepth 20000 in
theorem gL_law_X8_write : GoodIn wsL_law (wsV RL 38 RX8 yX8_write wsX8_write) := goodIn_app (goodIn_of _ (by decide +kernel)) ggL_law_X8_write
set_option maxRecDepth 20000 in
theorem ggL_law_X7_read : GoodIn wsL_law wsX7_read := goodIn_r _ [225, 16, 41, 196, 197, 198, 15, 199, 50, 158, 2, 159, 200, 201, 202, 203, 49, 226, 227, 228, 229, 230, 231, 232, 233, 47, 760, 761, 762, 763, 764, 765, 766, 767, 791, 792, 793] (by decide +kernel) (by decide +kernel)
set_option maxRecDepth 20000 in
theorem gL_law_X7_read : GoodIn wsL_law (wsV RL 39 RX7 yX7_read wsX7_read) := goodIn_app (goodIn_of _ (by decide +kernel)) ggL_law_X7_read
set_option maxRecDepth 20000 in
theorem ggL_law_X8_read : GoodIn wsL_law wsX8_read := goodIn_r _ [237, 135, 238, 110, 215, 216, 217, 5, 218, 109, 185, 186, 187, 768, 769, 770, 771, 772, 773, 774, 775, 776, 777, 778, 779, 780, 781, 782, 783, 784, 785, 786, 787, 788, 789, 790] (by decide +kernel) (by decide +kernel)
set_option maxRecDepth 20000 in
theorem gL_law_X8_read : GoodIn wsL_law (wsV RL 43 RX8 yX8_read wsX8_read) := goodIn_app (goodIn_of _ (by decide +kernel)) ggL_law_X8_read
set_option maxRecDepth 20000 in
theorem ggL_law_X7_pour : GoodIn wsL_law wsX7_pour := goodIn_r _ [242, 16, 243, 244, 245, 2, 246, 157, 158, 159, 247, 201, 202, 15, 203, 49, 248, 249, 250, 251, 252, 253, 254, 255, 50, 163, 164, 165, 166, 41, 256, 257, 258, 259, 47, 260, 261, 262, 263, 177, 178, 179, 180, 760, 761, 762, 763, 764, 765, 766, 767, 791, 792, 793] (by decide +kernel) (by decide +kernel)
set_option maxRecDepth 20000 in
theorem gL_law_X7_pour : GoodIn wsL_law (wsV RL 44 RX7 yX7_pour wsX7_pour) := goodIn_app (goodIn_of _ (by decide +kernel)) ggL_law_X7_pour
set_option maxRecDepth 20000 in
theorem ggL_law_X8_pour : GoodIn wsL_law wsX8_pour := goodIn_r _ [267, 109, 108, 110, 185, 186, 5, 187, 188, 189, 190, 191, 135, 768, 769, 770, 771, 772, 773, 774, 775, 776, 777, 778, 779, 780, 781, 782, 783, 784, 785, 786, 787, 788, 789, 790] (by decide +kernel) (by decide +kernel)
set_option maxRecDepth 20000 in
theorem gL_law_X8_pour : GoodIn wsL_law (wsV RL 48 RX8 yX8_pour wsX8_pour) := goodIn_app (goodIn_of _ (by decide +kernel)) ggL_law_X8_pour
set_option maxRecDepth 20000 in
theorem ggL_law_X7_eye : GoodIn wsL_law wsX7_eye := goodIn_r _ [271, 20, 226, 227, 228, 2, 229, 41, 272, 273, 274, 19, 275, 62, 276, 277, 278, 279, 760, 761, 762, 763, 764, 765, 766, 767, 794, 795, 796, 797, 798] (by decide +kernel) (by decide +kernel)
set_option maxRecDepth 20000 in
theorem gL_law_X7_eye : GoodIn wsL_law (wsV RL 49 RX7 yX7_eye wsX7_eye) := goodIn_app (goodIn_of _ (by decide +kernel)) ggL_law_X7_eye
set_option maxRecDepth 20000 in
theorem ggL_law_X8_eye : GoodIn wsL_law wsX8_eye := goodIn_r _ [283, 284, 113, 135, 285, 286, 287, 5, 288, 289, 290, 291, 768, 769, 770, 771, 772, 773, 774, 775, 776, 777, 778, 779, 780, 781, 782, 783, 784, 785, 786, 787, 788, 789, 790] (by decide +kernel) (by decide +kernel)
set_option maxRecDepth 20000 in
theorem gL_law_X8_eye : GoodIn wsL_law (wsV RL 52 RX8 yX8_eye wsX8_eye) := goodIn_app (goodIn_of _ (by decide +kernel)) ggL_law_X8_eye
set_option maxRecDepth 20000 in
theorem ggL_law_X7_tell : GoodIn wsL_law wsX7_tell := goodIn_r _ [295, 20, 296, 297, 298, 2, 299, 300, 301, 302, 157, 158, 159, 303, 304, 19, 305, 163, 164, 165, 166, 41, 306, 307, 308, 309, 59, 310, 311, 312, 313, 62, 60, 61, 314, 315, 316, 317, 318, 319, 320, 321, 322, 323, 324, 325, 326, 327, 328, 329, 177, 178, 179, 180, 760, 761, 762, 763, 764, 765, 766, 767, 794, 795, 796, 797, 798] (by decide +kernel) (by decide +kernel)
set_option maxRecDepth 20000 in
theorem gL_law_X7_tell : GoodIn wsL_law (wsV RL 53 RX7 yX7_tell wsX7_tell) := goodIn_app (goodIn_of _ (by decide +kernel)) ggL_law_X7_tell
set_option maxRecDepth 20000 in
theorem ggL_law_X8_tell : GoodIn wsL_law wsX8_tell := goodIn_r _ [333, 113, 114, 334, 335, 336, 5, 337, 284, 338, 339, 340, 341, 342, 343, 344, 345, 188, 189, 190, 191, 135, 289, 290, 291, 768, 769, 770, 771, 772, 773, 774, 775, 776, 777, 778, 779, 780, 781, 782, 783, 784, 785, 786, 787, 788, 789, 790] (by decide +kernel) (by decide +kernel)
set_option maxRecDepth 20000 in
theorem gL_law_X8_tell : GoodIn wsL_law (wsV RL 57 RX8 yX8_tell wsX8_tell) := goodIn_app (goodIn_of _ (by decide +kernel)) ggL_law_X8_tell
set_option maxRecDepth 20000 in
theorem ggL_law_X7_unsay : GoodIn wsL_law wsX7_unsay := goodIn_r _ [349, 20, 296, 297, 298, 2, 299, 300, 301, 302, 157, 158, 159, 163, 164, 165, 166, 41, 350, 315, 316, 19, 317, 59, 306, 307, 308, 309, 310, 311, 312, 313, 62, 60, 61, 314, 318, 319, 320, 321, 322, 323, 324, 325, 326, 327, 328, 329, 177, 178, 179, 180, 760, 761, 762, 763, 764, 765, 766, 767, 794, 795, 796, 797, 798] (by decide +kernel) (by decide +kernel)
set_option maxRecDepth 20000 in
theorem gL_law_X7_unsay : GoodIn wsL_law (wsV RL 58 RX7 yX7_unsay wsX7_unsay) := goodIn_app (goodIn_of _ (by decide +kernel)) ggL_law_X7_unsay
set_option maxRecDepth 20000 in
theorem ggL_law_X8_unsay : GoodIn wsL_law wsX8_unsay := goodIn_r _ [354, 113, 334, 335, 336, 5, 337, 284, 338, 339, 340, 188, 189, 190, 191, 135, 289, 290, 291, 768, 769, 770, 771, 772, 773, 774, 775, 776, 777, 778, 779, 780, 781, 782, 783, 784, 785, 786, 787, 788, 789, 790] (by decide +kernel) (by decide +kernel)
set_option maxRecDepth 20000 in
theorem gL_law_X8_unsay : GoodIn wsL_law (wsV RL 62 RX8 yX8_unsay wsX8_unsay) := goodIn_app (goodIn_of _ (by decide +kernel)) ggL_law_X8_unsay
