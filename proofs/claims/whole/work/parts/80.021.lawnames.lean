set_option maxRecDepth 20000 in
theorem ggL_law_X7_book : GoodIn wsL_law wsX7_book := goodIn_r _ [358, 20, 16, 359, 360, 361, 2, 362, 296, 297, 298, 299, 300, 301, 302, 157, 158, 159, 247, 201, 202, 15, 203, 49, 252, 253, 254, 255, 50, 230, 231, 232, 233, 47, 363, 364, 19, 365, 366, 367, 368, 304, 305, 163, 164, 165, 166, 41, 306, 307, 308, 309, 59, 310, 311, 312, 313, 62, 60, 61, 314, 315, 316, 317, 318, 319, 320, 321, 322, 323, 324, 325, 326, 327, 328, 329, 177, 178, 179, 180, 760, 761, 762, 763, 764, 765, 766, 767, 794, 795, 796, 797, 798, 791, 792, 793] (by decide +kernel) (by decide +kernel)
set_option maxRecDepth 20000 in
theorem gL_law_X7_book : GoodIn wsL_law (wsV RL 63 RX7 yX7_book wsX7_book) := goodIn_app (goodIn_of _ (by decide +kernel)) ggL_law_X7_book
set_option maxRecDepth 20000 in
theorem ggL_law_X8_book : GoodIn wsL_law wsX8_book := goodIn_r _ [372, 109, 110, 238, 373, 113, 114, 334, 335, 336, 5, 337, 284, 338, 339, 340, 185, 186, 187, 188, 189, 190, 191, 135, 341, 342, 343, 344, 345, 289, 290, 291, 768, 769, 770, 771, 772, 773, 774, 775, 776, 777, 778, 779, 780, 781, 782, 783, 784, 785, 786, 787, 788, 789, 790] (by decide +kernel) (by decide +kernel)
set_option maxRecDepth 20000 in
theorem gL_law_X8_book : GoodIn wsL_law (wsV RL 66 RX8 yX8_book wsX8_book) := goodIn_app (goodIn_of _ (by decide +kernel)) ggL_law_X8_book
set_option maxRecDepth 20000 in
theorem ggL_law_X7_told : GoodIn wsL_law wsX7_told := goodIn_r _ [377, 20, 296, 297, 298, 2, 299, 300, 301, 302, 157, 158, 159, 226, 227, 228, 229, 41, 350, 315, 316, 19, 317, 59, 378, 323, 324, 325, 276, 277, 278, 279, 379, 327, 328, 329, 380, 319, 320, 321, 322, 326, 760, 761, 762, 763, 764, 765, 766, 767, 794, 795, 796, 797, 798] (by decide +kernel) (by decide +kernel)
set_option maxRecDepth 20000 in
theorem gL_law_X7_told : GoodIn wsL_law (wsV RL 67 RX7 yX7_told wsX7_told) := goodIn_app (goodIn_of _ (by decide +kernel)) ggL_law_X7_told
set_option maxRecDepth 20000 in
theorem ggL_law_X8_told : GoodIn wsL_law wsX8_told := goodIn_r _ [384, 113, 135, 114, 334, 335, 336, 5, 337, 284, 338, 339, 340, 285, 286, 287, 288, 289, 290, 291, 385, 386, 387, 388, 768, 769, 770, 771, 772, 773, 774, 775, 776, 777, 778, 779, 780, 781, 782, 783, 784, 785, 786, 787, 788, 789, 790] (by decide +kernel) (by decide +kernel)
set_option maxRecDepth 20000 in
theorem gL_law_X8_told : GoodIn wsL_law (wsV RL 71 RX8 yX8_told wsX8_told) := goodIn_app (goodIn_of _ (by decide +kernel)) ggL_law_X8_told
set_option maxRecDepth 20000 in
theorem ggL_law_X7_days : GoodIn wsL_law wsX7_days := goodIn_r _ [392, 20, 296, 297, 298, 2, 299, 226, 227, 228, 229, 41, 393, 394, 395, 19, 396, 314, 315, 316, 317, 59, 276, 277, 278, 279, 760, 761, 762, 763, 764, 765, 766, 767, 794, 795, 796, 797, 798] (by decide +kernel) (by decide +kernel)
set_option maxRecDepth 20000 in
theorem gL_law_X7_days : GoodIn wsL_law (wsV RL 72 RX7 yX7_days wsX7_days) := goodIn_app (goodIn_of _ (by decide +kernel)) ggL_law_X7_days
set_option maxRecDepth 20000 in
theorem ggL_law_X8_days : GoodIn wsL_law wsX8_days := goodIn_r _ [400, 135, 113, 334, 335, 336, 5, 337, 284, 285, 286, 287, 288, 289, 290, 291, 768, 769, 770, 771, 772, 773, 774, 775, 776, 777, 778, 779, 780, 781, 782, 783, 784, 785, 786, 787, 788, 789, 790] (by decide +kernel) (by decide +kernel)
set_option maxRecDepth 20000 in
theorem gL_law_X8_days : GoodIn wsL_law (wsV RL 76 RX8 yX8_days wsX8_days) := goodIn_app (goodIn_of _ (by decide +kernel)) ggL_law_X8_days
set_option maxRecDepth 20000 in
theorem ggL_law_X7_rules : GoodIn wsL_law wsX7_rules := goodIn_r _ [404, 20, 36, 163, 164, 165, 2, 166, 41, 177, 178, 179, 180, 760, 761, 762, 763, 764, 765, 766, 767, 794, 795, 796, 797, 798, 812, 813, 814] (by decide +kernel) (by decide +kernel)
set_option maxRecDepth 20000 in
theorem gL_law_X7_rules : GoodIn wsL_law (wsV RL 77 RX7 yX7_rules wsX7_rules) := goodIn_app (goodIn_of _ (by decide +kernel)) ggL_law_X7_rules
set_option maxRecDepth 20000 in
theorem ggL_law_X8_rules : GoodIn wsL_law wsX8_rules := goodIn_r _ [408, 111, 112, 188, 189, 190, 5, 191, 135, 768, 769, 770, 771, 772, 773, 774, 775, 776, 777, 778, 779, 780, 781, 782, 783, 784, 785, 786, 787, 788, 789, 790] (by decide +kernel) (by decide +kernel)
set_option maxRecDepth 20000 in
theorem gL_law_X8_rules : GoodIn wsL_law (wsV RL 80 RX8 yX8_rules wsX8_rules) := goodIn_app (goodIn_of _ (by decide +kernel)) ggL_law_X8_rules
set_option maxRecDepth 20000 in
theorem ggL_law_X7_both : GoodIn wsL_law wsX7_both := goodIn_r _ [412, 20, 413, 414, 415, 2, 416, 296, 297, 298, 299, 226, 227, 228, 229, 41, 417, 418, 419, 19, 420, 60, 276, 277, 278, 279, 760, 761, 762, 763, 764, 765, 766, 767, 794, 795, 796, 797, 798] (by decide +kernel) (by decide +kernel)
set_option maxRecDepth 20000 in
theorem gL_law_X7_both : GoodIn wsL_law (wsV RL 81 RX7 yX7_both wsX7_both) := goodIn_app (goodIn_of _ (by decide +kernel)) ggL_law_X7_both
set_option maxRecDepth 20000 in
theorem ggL_law_X8_both : GoodIn wsL_law wsX8_both := goodIn_r _ [424, 135, 425, 426, 427, 5, 428, 334, 335, 336, 337, 284, 285, 286, 287, 288, 429, 430, 431, 432, 433, 434, 435, 436, 437, 438, 439, 440, 115, 113, 289, 290, 291, 768, 769, 770, 771, 772, 773, 774, 775, 776, 777, 778, 779, 780, 781, 782, 783, 784, 785, 786, 787, 788, 789, 790] (by decide +kernel) (by decide +kernel)
set_option maxRecDepth 20000 in
theorem gL_law_X8_both : GoodIn wsL_law (wsV RL 85 RX8 yX8_both wsX8_both) := goodIn_app (goodIn_of _ (by decide +kernel)) ggL_law_X8_both
set_option maxRecDepth 20000 in
theorem ggL_law_X7_factor : GoodIn wsL_law wsX7_factor := goodIn_r _ [444, 20, 413, 414, 415, 2, 416, 296, 297, 298, 299, 226, 227, 228, 229, 41, 445, 446, 447, 19, 448, 61, 60, 63, 449, 450, 451, 452, 453, 276, 277, 278, 279, 760, 761, 762, 763, 764, 765, 766, 767, 794, 795, 796, 797, 798] (by decide +kernel) (by decide +kernel)
set_option maxRecDepth 20000 in
theorem gL_law_X7_factor : GoodIn wsL_law (wsV RL 86 RX7 yX7_factor wsX7_factor) := goodIn_app (goodIn_of _ (by decide +kernel)) ggL_law_X7_factor
set_option maxRecDepth 20000 in
theorem ggL_law_X8_factor : GoodIn wsL_law wsX8_factor := goodIn_r _ [457, 135, 425, 426, 427, 5, 428, 334, 335, 336, 337, 284, 285, 286, 287, 288, 458, 459, 460, 461, 111, 373, 462, 463, 433, 434, 435, 436, 437, 438, 439, 440, 115, 113, 289, 290, 291, 385, 386, 387, 388, 114, 768, 769, 770, 771, 772, 773, 774, 775, 776, 777, 778, 779, 780, 781, 782, 783, 784, 785, 786, 787, 788, 789, 790] (by decide +kernel) (by decide +kernel)
set_option maxRecDepth 20000 in
theorem gL_law_X8_factor : GoodIn wsL_law (wsV RL 89 RX8 yX8_factor wsX8_factor) := goodIn_app (goodIn_of _ (by decide +kernel)) ggL_law_X8_factor
set_option maxRecDepth 20000 in
theorem ggL_law_X7_middle : GoodIn wsL_law wsX7_middle := goodIn_r _ [467, 24, 20, 413, 414, 415, 2, 416, 296, 297, 298, 299, 226, 227, 228, 229, 41, 468, 469, 470, 23, 471, 71, 69, 70, 472, 473, 474, 19, 475, 314, 315, 316, 317, 59, 476, 319, 320, 321, 322, 323, 324, 325, 326, 327, 328, 329, 477, 478, 479, 480, 481, 482, 483, 484, 485, 486, 487, 488, 40, 489, 490, 491, 39, 492, 101, 102, 493, 494, 495, 276, 277, 278, 279, 760, 761, 762, 763, 764, 765, 766, 767, 799, 800, 801, 794, 795, 796, 797, 798, 815, 816] (by decide +kernel) (by decide +kernel)
set_option maxRecDepth 20000 in
theorem gL_law_X7_middle : GoodIn wsL_law (wsV RL 90 RX7 yX7_middle wsX7_middle) := goodIn_app (goodIn_of _ (by decide +kernel)) ggL_law_X7_middle
set_option maxRecDepth 20000 in
theorem ggL_law_X8_middle : GoodIn wsL_law wsX8_middle := goodIn_r _ [499, 425, 426, 427, 5, 428, 334, 335, 336, 337, 284, 285, 286, 287, 288, 135, 433, 434, 435, 436, 437, 438, 439, 440, 115, 113, 289, 290, 291, 385, 386, 387, 388, 114, 500, 501, 502, 503, 144, 107, 768, 769, 770, 771, 772, 773, 774, 775, 776, 777, 778, 779, 780, 781, 782, 783, 784, 785, 786, 787, 788, 789, 790] (by decide +kernel) (by decide +kernel)
set_option maxRecDepth 20000 in
theorem gL_law_X8_middle : GoodIn wsL_law (wsV RL 93 RX8 yX8_middle wsX8_middle) := goodIn_app (goodIn_of _ (by decide +kernel)) ggL_law_X8_middle
set_option maxRecDepth 20000 in
theorem ggL_law_X7_step : GoodIn wsL_law wsX7_step := goodIn_r _ [507, 28, 20, 413, 414, 415, 2, 416, 296, 297, 298, 299, 157, 158, 159, 226, 227, 228, 229, 41, 508, 509, 510, 27, 511, 76, 77, 512, 52, 53, 54, 513, 473, 474, 19, 475, 314, 315, 316, 317, 59, 514, 323, 324, 325, 515, 516, 517, 518, 81, 78, 79, 80, 519, 520, 521, 522, 523, 524, 525, 526, 527, 528, 529, 530, 485, 486, 487, 488, 40, 489, 490, 491, 39, 492, 101, 102, 493, 494, 495, 276, 277, 278, 279, 760, 761, 762, 763, 764, 765, 766, 767, 802, 803, 804, 805, 806, 807, 794, 795, 796, 797, 798, 815, 816] (by decide +kernel) (by decide +kernel)
set_option maxRecDepth 20000 in
theorem gL_law_X7_step : GoodIn wsL_law (wsV RL 94 RX7 yX7_step wsX7_step) := goodIn_app (goodIn_of _ (by decide +kernel)) ggL_law_X7_step
set_option maxRecDepth 20000 in
theorem ggL_law_X8_step : GoodIn wsL_law wsX8_step := goodIn_r _ [534, 116, 117, 113, 238, 425, 426, 427, 5, 428, 334, 335, 336, 337, 284, 285, 286, 287, 288, 135, 433, 434, 435, 436, 437, 438, 439, 440, 115, 289, 290, 291, 500, 501, 502, 503, 144, 107, 768, 769, 770, 771, 772, 773, 774, 775, 776, 777, 778, 779, 780, 781, 782, 783, 784, 785, 786, 787, 788, 789, 790] (by decide +kernel) (by decide +kernel)
set_option maxRecDepth 20000 in
theorem gL_law_X8_step : GoodIn wsL_law (wsV RL 97 RX8 yX8_step wsX8_step) := goodIn_app (goodIn_of _ (by decide +kernel)) ggL_law_X8_step
set_option maxRecDepth 20000 in
theorem ggL_law_X7_blind : GoodIn wsL_law wsX7_blind := goodIn_r _ [538, 20, 413, 414, 415, 2, 416, 296, 297, 298, 299, 226, 227, 228, 229, 41, 417, 418, 419, 19, 420, 60, 539, 540, 541, 542, 543, 473, 474, 475, 314, 315, 316, 317, 59, 322, 323, 324, 325, 276, 277, 278, 279, 760, 761, 762, 763, 764, 765, 766, 767, 794, 795, 796, 797, 798] (by decide +kernel) (by decide +kernel)
set_option maxRecDepth 20000 in
theorem gL_law_X7_blind : GoodIn wsL_law (wsV RL 98 RX7 yX7_blind wsX7_blind) := goodIn_app (goodIn_of _ (by decide +kernel)) ggL_law_X7_blind
set_option maxRecDepth 20000 in
theorem ggL_law_X8_blind : GoodIn wsL_law wsX8_blind := goodIn_r _ [547, 135, 113, 425, 426, 427, 5, 428, 334, 335, 336, 337, 284, 285, 286, 287, 288, 429, 430, 431, 432, 433, 434, 435, 436, 437, 438, 439, 440, 115, 289, 290, 291, 768, 769, 770, 771, 772, 773, 774, 775, 776, 777, 778, 779, 780, 781, 782, 783, 784, 785, 786, 787, 788, 789, 790] (by decide +kernel) (by decide +kernel)
set_option maxRecDepth 20000 in
theorem gL_law_X8_blind : GoodIn wsL_law (wsV RL 101 RX8 yX8_blind wsX8_blind) := goodIn_app (goodIn_of _ (by decide +kernel)) ggL_law_X8_blind
set_option maxRecDepth 20000 in
theorem ggL_law_X7_active : GoodIn wsL_law wsX7_active := goodIn_r _ [551, 20, 296, 297, 298, 2, 299, 300, 301, 302, 157, 158, 159, 226, 227, 228, 229, 41, 393, 394, 395, 19, 396, 314, 315, 316, 317, 59, 552, 553, 554, 555, 322, 323, 324, 325, 485, 486, 487, 488, 40, 489, 490, 491, 39, 492, 101, 102, 493, 494, 495, 276, 277, 278, 279, 760, 761, 762, 763, 764, 765, 766, 767, 794, 795, 796, 797, 798, 815, 816] (by decide +kernel) (by decide +kernel)
set_option maxRecDepth 20000 in
theorem gL_law_X7_active : GoodIn wsL_law (wsV RL 102 RX7 yX7_active wsX7_active) := goodIn_app (goodIn_of _ (by decide +kernel)) ggL_law_X7_active
set_option maxRecDepth 20000 in
theorem ggL_law_X8_active : GoodIn wsL_law wsX8_active := goodIn_r _ [559, 113, 334, 335, 336, 5, 337, 284, 338, 339, 340, 285, 286, 287, 288, 135, 289, 290, 291, 500, 501, 502, 503, 144, 107, 768, 769, 770, 771, 772, 773, 774, 775, 776, 777, 778, 779, 780, 781, 782, 783, 784, 785, 786, 787, 788, 789, 790] (by decide +kernel) (by decide +kernel)
set_option maxRecDepth 20000 in
theorem gL_law_X8_active : GoodIn wsL_law (wsV RL 105 RX8 yX8_active wsX8_active) := goodIn_app (goodIn_of _ (by decide +kernel)) ggL_law_X8_active
set_option maxRecDepth 20000 in
theorem ggL_law_X7_chain : GoodIn wsL_law wsX7_chain := goodIn_r _ [563, 32, 20, 296, 297, 298, 2, 299, 226, 227, 228, 229, 41, 564, 565, 566, 31, 567, 86, 87, 88, 568, 52, 53, 54, 569, 570, 571, 572, 573, 574, 575, 576, 577, 578, 579, 580, 446, 447, 19, 448, 61, 60, 63, 449, 581, 418, 419, 420, 582, 583, 584, 585, 586, 89, 587, 588, 589, 590, 591, 592, 593, 594, 595, 596, 597, 598, 599, 276, 277, 278, 279, 760, 761, 762, 763, 764, 765, 766, 767, 808, 809, 810, 811, 794, 795, 796, 797, 798] (by decide +kernel) (by decide +kernel)
set_option maxRecDepth 20000 in
theorem gL_law_X7_chain : GoodIn wsL_law (wsV RL 106 RX7 yX7_chain wsX7_chain) := goodIn_app (goodIn_of _ (by decide +kernel)) ggL_law_X7_chain
set_option maxRecDepth 20000 in
theorem ggL_law_X8_chain : GoodIn wsL_law wsX8_chain := goodIn_r _ [603, 135, 123, 334, 335, 336, 5, 337, 284, 285, 286, 287, 288, 604, 605, 606, 607, 118, 119, 122, 121, 608, 574, 575, 576, 609, 610, 611, 612, 120, 613, 614, 615, 458, 459, 460, 461, 111, 373, 462, 463, 433, 434, 435, 436, 437, 438, 439, 440, 115, 113, 289, 290, 291, 385, 386, 387, 388, 114, 429, 430, 431, 432, 768, 769, 770, 771, 772, 773, 774, 775, 776, 777, 778, 779, 780, 781, 782, 783, 784, 785, 786, 787, 788, 789, 790] (by decide +kernel) (by decide +kernel)
set_option maxRecDepth 20000 in
theorem gL_law_X8_chain : GoodIn wsL_law (wsV RL 109 RX8 yX8_chain wsX8_chain) := goodIn_app (goodIn_of _ (by decide +kernel)) ggL_law_X8_chain
