set_option maxRecDepth 20000 in
theorem ggL_law_X7_weight : GoodIn wsL_law wsX7_weight := goodIn_r _ [619, 32, 20, 296, 297, 298, 2, 299, 226, 227, 228, 229, 41, 564, 565, 566, 31, 567, 86, 87, 88, 568, 52, 53, 54, 569, 570, 571, 572, 573, 574, 575, 576, 577, 578, 579, 580, 446, 447, 19, 448, 61, 60, 63, 449, 581, 418, 419, 420, 582, 583, 584, 585, 586, 89, 587, 588, 589, 590, 591, 592, 593, 594, 595, 596, 597, 598, 450, 451, 452, 453, 276, 277, 278, 279, 760, 761, 762, 763, 764, 765, 766, 767, 808, 809, 810, 811, 794, 795, 796, 797, 798] (by decide +kernel) (by decide +kernel)
set_option maxRecDepth 20000 in
theorem gL_law_X7_weight : GoodIn wsL_law (wsV RL 110 RX7 yX7_weight wsX7_weight) := goodIn_app (goodIn_of _ (by decide +kernel)) ggL_law_X7_weight
set_option maxRecDepth 20000 in
theorem ggL_law_X8_weight : GoodIn wsL_law wsX8_weight := goodIn_r _ [623, 135, 334, 335, 336, 5, 337, 284, 285, 286, 287, 288, 624, 625, 626, 627, 373, 628, 122, 123, 629, 589, 575, 590, 604, 605, 606, 607, 118, 119, 121, 608, 574, 576, 609, 610, 611, 612, 120, 613, 614, 615, 458, 459, 460, 461, 111, 462, 463, 433, 434, 435, 436, 437, 438, 439, 440, 115, 113, 289, 290, 291, 385, 386, 387, 388, 114, 429, 430, 431, 432, 768, 769, 770, 771, 772, 773, 774, 775, 776, 777, 778, 779, 780, 781, 782, 783, 784, 785, 786, 787, 788, 789, 790] (by decide +kernel) (by decide +kernel)
set_option maxRecDepth 20000 in
theorem gL_law_X8_weight : GoodIn wsL_law (wsV RL 113 RX8 yX8_weight wsX8_weight) := goodIn_app (goodIn_of _ (by decide +kernel)) ggL_law_X8_weight
set_option maxRecDepth 20000 in
theorem ggL_law_X7_loop : GoodIn wsL_law wsX7_loop := goodIn_r _ [633, 20, 634, 635, 413, 414, 415, 2, 416, 296, 297, 298, 299, 226, 227, 228, 229, 41, 445, 446, 447, 19, 448, 61, 60, 63, 449, 276, 277, 278, 279, 760, 761, 762, 763, 764, 765, 766, 767, 794, 795, 796, 797, 798] (by decide +kernel) (by decide +kernel)
set_option maxRecDepth 20000 in
theorem gL_law_X7_loop : GoodIn wsL_law (wsV RL 114 RX7 yX7_loop wsX7_loop) := goodIn_app (goodIn_of _ (by decide +kernel)) ggL_law_X7_loop
set_option maxRecDepth 20000 in
theorem ggL_law_X8_loop : GoodIn wsL_law wsX8_loop := goodIn_r _ [639, 238, 135, 628, 425, 426, 427, 5, 428, 334, 335, 336, 337, 284, 285, 286, 287, 288, 458, 459, 460, 461, 111, 373, 462, 463, 433, 434, 435, 436, 437, 438, 439, 440, 115, 113, 289, 290, 291, 385, 386, 387, 388, 114, 768, 769, 770, 771, 772, 773, 774, 775, 776, 777, 778, 779, 780, 781, 782, 783, 784, 785, 786, 787, 788, 789, 790] (by decide +kernel) (by decide +kernel)
set_option maxRecDepth 20000 in
theorem gL_law_X8_loop : GoodIn wsL_law (wsV RL 117 RX8 yX8_loop wsX8_loop) := goodIn_app (goodIn_of _ (by decide +kernel)) ggL_law_X8_loop
set_option maxRecDepth 20000 in
theorem ggL_law_X7_day : GoodIn wsL_law wsX7_day := goodIn_r _ [643, 32, 20, 36, 300, 301, 2, 302, 157, 158, 159, 226, 227, 228, 229, 41, 564, 565, 566, 31, 567, 86, 87, 88, 568, 52, 53, 54, 569, 570, 571, 572, 573, 574, 575, 576, 577, 578, 579, 580, 446, 447, 19, 448, 61, 60, 63, 449, 581, 418, 419, 420, 582, 583, 584, 585, 586, 89, 587, 588, 589, 590, 591, 592, 593, 594, 595, 596, 597, 598, 644, 645, 646, 35, 647, 648, 315, 316, 317, 59, 649, 319, 320, 321, 322, 323, 324, 325, 326, 327, 328, 329, 450, 451, 452, 453, 276, 277, 278, 279, 760, 761, 762, 763, 764, 765, 766, 767, 808, 809, 810, 811, 794, 795, 796, 797, 798] (by decide +kernel) (by decide +kernel)
set_option maxRecDepth 20000 in
theorem gL_law_X7_day : GoodIn wsL_law (wsV RL 118 RX7 yX7_day wsX7_day) := goodIn_app (goodIn_of _ (by decide +kernel)) ggL_law_X7_day
set_option maxRecDepth 20000 in
theorem ggL_law_X8_day : GoodIn wsL_law wsX8_day := goodIn_r _ [653, 338, 339, 5, 340, 285, 286, 287, 288, 135, 654, 655, 656, 657, 284, 124, 624, 625, 626, 627, 373, 628, 122, 123, 629, 589, 575, 590, 604, 605, 606, 607, 118, 119, 121, 608, 574, 576, 609, 610, 611, 612, 120, 613, 614, 615, 458, 459, 460, 461, 111, 462, 463, 433, 434, 435, 436, 437, 438, 439, 440, 115, 113, 289, 290, 291, 385, 386, 387, 388, 114, 429, 430, 431, 432, 658, 659, 660, 661, 662, 663, 664, 665, 768, 769, 770, 771, 772, 773, 774, 775, 776, 777, 778, 779, 780, 781, 782, 783, 784, 785, 786, 787, 788, 789, 790] (by decide +kernel) (by decide +kernel)
set_option maxRecDepth 20000 in
theorem gL_law_X8_day : GoodIn wsL_law (wsV RL 121 RX8 yX8_day wsX8_day) := goodIn_app (goodIn_of _ (by decide +kernel)) ggL_law_X8_day
set_option maxRecDepth 20000 in
theorem ggL_law_X7_month : GoodIn wsL_law wsX7_month := goodIn_r _ [669, 670, 671, 2, 672, 157, 158, 159, 226, 227, 228, 229, 41, 673, 674, 675, 676, 32, 20, 36, 564, 565, 566, 31, 567, 86, 87, 88, 568, 52, 53, 54, 569, 570, 571, 572, 573, 574, 575, 576, 577, 578, 579, 580, 446, 447, 19, 448, 61, 60, 63, 449, 581, 418, 419, 420, 582, 583, 584, 585, 586, 89, 587, 588, 589, 590, 591, 592, 593, 594, 595, 596, 597, 598, 677, 678, 679, 35, 680, 96, 681, 645, 646, 647, 648, 315, 316, 317, 59, 649, 319, 320, 321, 322, 323, 324, 325, 326, 327, 328, 329, 450, 451, 452, 453, 276, 277, 278, 279, 760, 761, 762, 763, 764, 765, 766, 767, 808, 809, 810, 811, 794, 795, 796, 797, 798, 812, 813, 814] (by decide +kernel) (by decide +kernel)
set_option maxRecDepth 20000 in
theorem gL_law_X7_month : GoodIn wsL_law (wsV RL 122 RX7 yX7_month wsX7_month) := goodIn_app (goodIn_of _ (by decide +kernel)) ggL_law_X7_month
set_option maxRecDepth 20000 in
theorem ggL_law_X8_month : GoodIn wsL_law wsX8_month := goodIn_r _ [685, 686, 687, 5, 688, 285, 286, 287, 288, 135, 654, 655, 656, 657, 284, 124, 624, 625, 626, 627, 373, 628, 122, 123, 629, 589, 575, 590, 604, 605, 606, 607, 118, 119, 121, 608, 574, 576, 609, 610, 611, 612, 120, 613, 614, 615, 458, 459, 460, 461, 111, 462, 463, 433, 434, 435, 436, 437, 438, 439, 440, 115, 113, 289, 290, 291, 385, 386, 387, 388, 114, 429, 430, 431, 432, 689, 690, 691, 692, 112, 658, 659, 660, 661, 662, 663, 664, 665, 768, 769, 770, 771, 772, 773, 774, 775, 776, 777, 778, 779, 780, 781, 782, 783, 784, 785, 786, 787, 788, 789, 790] (by decide +kernel) (by decide +kernel)
set_option maxRecDepth 20000 in
theorem gL_law_X8_month : GoodIn wsL_law (wsV RL 125 RX8 yX8_month wsX8_month) := goodIn_app (goodIn_of _ (by decide +kernel)) ggL_law_X8_month
set_option maxRecDepth 20000 in
theorem ggL_law_X7_smooth : GoodIn wsL_law wsX7_smooth := goodIn_r _ [696, 32, 20, 36, 670, 671, 2, 672, 157, 158, 159, 697, 698, 35, 699, 226, 227, 228, 229, 41, 564, 565, 566, 31, 567, 86, 87, 88, 568, 52, 53, 54, 569, 570, 571, 572, 573, 574, 575, 576, 577, 578, 579, 580, 446, 447, 19, 448, 61, 60, 63, 449, 581, 418, 419, 420, 582, 583, 584, 585, 586, 89, 587, 588, 589, 590, 591, 592, 593, 594, 595, 596, 597, 598, 700, 701, 702, 703, 94, 704, 678, 679, 680, 96, 681, 645, 646, 647, 648, 315, 316, 317, 59, 649, 319, 320, 321, 322, 323, 324, 325, 326, 327, 328, 329, 705, 706, 707, 708, 709, 710, 450, 451, 452, 453, 276, 277, 278, 279, 760, 761, 762, 763, 764, 765, 766, 767, 808, 809, 810, 811, 794, 795, 796, 797, 798, 812, 813, 814] (by decide +kernel) (by decide +kernel)
set_option maxRecDepth 20000 in
theorem gL_law_X7_smooth : GoodIn wsL_law (wsV RL 126 RX7 yX7_smooth wsX7_smooth) := goodIn_app (goodIn_of _ (by decide +kernel)) ggL_law_X7_smooth
set_option maxRecDepth 20000 in
theorem ggL_law_X8_smooth : GoodIn wsL_law wsX8_smooth := goodIn_r _ [714, 126, 686, 687, 5, 688, 715, 716, 717, 285, 286, 287, 288, 135, 718, 719, 720, 721, 125, 654, 655, 656, 657, 284, 124, 624, 625, 626, 627, 373, 628, 122, 123, 629, 589, 575, 590, 604, 605, 606, 607, 118, 119, 121, 608, 574, 576, 609, 610, 611, 612, 120, 613, 614, 615, 458, 459, 460, 461, 111, 462, 463, 433, 434, 435, 436, 437, 438, 439, 440, 115, 113, 289, 290, 291, 385, 386, 387, 388, 114, 429, 430, 431, 432, 689, 690, 691, 692, 112, 658, 659, 660, 661, 662, 663, 664, 665, 768, 769, 770, 771, 772, 773, 774, 775, 776, 777, 778, 779, 780, 781, 782, 783, 784, 785, 786, 787, 788, 789, 790] (by decide +kernel) (by decide +kernel)
set_option maxRecDepth 20000 in
theorem gL_law_X8_smooth : GoodIn wsL_law (wsV RL 129 RX8 yX8_smooth wsX8_smooth) := goodIn_app (goodIn_of _ (by decide +kernel)) ggL_law_X8_smooth
set_option maxRecDepth 20000 in
theorem ggL_law_X7_turn : GoodIn wsL_law wsX7_turn := goodIn_r _ [725, 32, 20, 36, 697, 698, 35, 699, 226, 227, 228, 2, 229, 41, 564, 565, 566, 31, 567, 86, 87, 88, 568, 52, 53, 54, 569, 570, 571, 572, 573, 574, 575, 576, 577, 578, 579, 580, 446, 447, 19, 448, 61, 60, 63, 449, 581, 418, 419, 420, 582, 583, 584, 585, 586, 89, 587, 588, 589, 590, 591, 592, 593, 594, 595, 596, 597, 598, 700, 701, 702, 703, 94, 704, 678, 679, 680, 96, 681, 645, 646, 647, 648, 315, 316, 317, 59, 649, 319, 320, 321, 322, 323, 324, 325, 326, 327, 328, 329, 726, 727, 728, 729, 95, 730, 706, 707, 708, 709, 710, 731, 732, 733, 734, 735, 736, 737, 738, 739, 740, 741, 742, 450, 451, 452, 453, 276, 277, 278, 279, 760, 761, 762, 763, 764, 765, 766, 767, 808, 809, 810, 811, 794, 795, 796, 797, 798, 812, 813, 814] (by decide +kernel) (by decide +kernel)
set_option maxRecDepth 20000 in
theorem gL_law_X7_turn : GoodIn wsL_law (wsV RL 130 RX7 yX7_turn wsX7_turn) := goodIn_app (goodIn_of _ (by decide +kernel)) ggL_law_X7_turn
set_option maxRecDepth 20000 in
theorem ggL_law_X8_turn : GoodIn wsL_law wsX8_turn := goodIn_r _ [746, 135, 715, 716, 5, 717, 285, 286, 287, 288, 718, 719, 720, 721, 125, 126, 654, 655, 656, 657, 284, 124, 624, 625, 626, 627, 373, 628, 122, 123, 629, 589, 575, 590, 604, 605, 606, 607, 118, 119, 121, 608, 574, 576, 609, 610, 611, 612, 120, 613, 614, 615, 458, 459, 460, 461, 111, 462, 463, 433, 434, 435, 436, 437, 438, 439, 440, 115, 113, 289, 290, 291, 385, 386, 387, 388, 114, 429, 430, 431, 432, 689, 690, 691, 692, 112, 658, 659, 660, 661, 686, 687, 688, 747, 748, 749, 750, 751, 578, 579, 768, 769, 770, 771, 772, 773, 774, 775, 776, 777, 778, 779, 780, 781, 782, 783, 784, 785, 786, 787, 788, 789, 790] (by decide +kernel) (by decide +kernel)
set_option maxRecDepth 20000 in
theorem gL_law_X8_turn : GoodIn wsL_law (wsV RL 134 RX8 yX8_turn wsX8_turn) := goodIn_app (goodIn_of _ (by decide +kernel)) ggL_law_X8_turn
set_option maxRecDepth 20000 in
theorem ggL_law_X7_change : GoodIn wsL_law wsX7_change := goodIn_r _ [755, 670, 671, 2, 672, 157, 158, 159, 296, 297, 298, 299, 20, 226, 227, 228, 229, 41, 673, 674, 675, 676, 32, 36, 564, 565, 566, 31, 567, 86, 87, 88, 568, 52, 53, 54, 569, 570, 571, 572, 573, 574, 575, 576, 577, 578, 579, 580, 446, 447, 19, 448, 61, 60, 63, 449, 581, 418, 419, 420, 582, 583, 584, 585, 586, 89, 587, 588, 589, 590, 591, 592, 593, 594, 595, 596, 597, 598, 677, 678, 679, 35, 680, 96, 681, 645, 646, 647, 648, 315, 316, 317, 59, 649, 319, 320, 321, 322, 323, 324, 325, 326, 327, 328, 329, 276, 277, 278, 279, 760, 761, 762, 763, 764, 765, 766, 767, 794, 795, 796, 797, 798, 808, 809, 810, 811, 812, 813, 814] (by decide +kernel) (by decide +kernel)
set_option maxRecDepth 20000 in
theorem gL_law_X7_change : GoodIn wsL_law (wsV RL 135 RX7 yX7_change wsX7_change) := goodIn_app (goodIn_of _ (by decide +kernel)) ggL_law_X7_change
set_option maxRecDepth 20000 in
theorem ggL_law_X8_change : GoodIn wsL_law wsX8_change := goodIn_r _ [759, 115, 135, 686, 687, 5, 688, 334, 335, 336, 337, 284, 285, 286, 287, 288, 654, 655, 656, 657, 124, 624, 625, 626, 627, 373, 628, 122, 123, 629, 589, 575, 590, 604, 605, 606, 607, 118, 119, 121, 608, 574, 576, 609, 610, 611, 612, 120, 613, 614, 615, 458, 459, 460, 461, 111, 462, 463, 433, 434, 435, 436, 437, 438, 439, 440, 113, 289, 290, 291, 385, 386, 387, 388, 114, 429, 430, 431, 432, 689, 690, 691, 692, 112, 658, 659, 660, 661, 768, 769, 770, 771, 772, 773, 774, 775, 776, 777, 778, 779, 780, 781, 782, 783, 784, 785, 786, 787, 788, 789, 790] (by decide +kernel) (by decide +kernel)
set_option maxRecDepth 20000 in
theorem gL_law_X8_change : GoodIn wsL_law (wsV RL 138 RX8 yX8_change wsX8_change) := goodIn_app (goodIn_of _ (by decide +kernel)) ggL_law_X8_change
theorem dL_law_0 : decode cL_law 0 = .ok (.new 7, 3) := by decide +kernel
theorem dL_law_3 : decode cL_law 3 = .ok (.dup, 1) := by decide +kernel
theorem dL_law_4 : decode cL_law 4 = .ok (.invokespecial 9, 3) := by decide +kernel
theorem dL_law_7 : decode cL_law 7 = .ok (.astore_n 1, 1) := by decide +kernel
theorem dL_law_8 : decode cL_law 8 = .ok (.new 10, 3) := by decide +kernel
theorem dL_law_11 : decode cL_law 11 = .ok (.dup, 1) := by decide +kernel
theorem dL_law_12 : decode cL_law 12 = .ok (.invokespecial 12, 3) := by decide +kernel
theorem dL_law_15 : decode cL_law 15 = .ok (.astore_n 2, 1) := by decide +kernel
theorem dL_law_16 : decode cL_law 16 = .ok (.iconst 0, 1) := by decide +kernel
theorem dL_law_17 : decode cL_law 17 = .ok (.istore_n 3, 1) := by decide +kernel
theorem dL_law_18 : decode cL_law 18 = .ok (.iload_n 3, 1) := by decide +kernel
theorem dL_law_19 : decode cL_law 19 = .ok (.aload_n 0, 1) := by decide +kernel
theorem dL_law_20 : decode cL_law 20 = .ok (.arraylength, 1) := by decide +kernel
theorem dL_law_21 : decode cL_law 21 = .ok (.bipush 6, 2) := by decide +kernel
theorem dL_law_23 : decode cL_law 23 = .ok (.isub, 1) := by decide +kernel
theorem dL_law_24 : decode cL_law 24 = .ok (.if_icmp .gt 1145, 3) := by decide +kernel
theorem dL_law_27 : decode cL_law 27 = .ok (.aload_n 0, 1) := by decide +kernel
theorem dL_law_28 : decode cL_law 28 = .ok (.iload_n 3, 1) := by decide +kernel
theorem dL_law_29 : decode cL_law 29 = .ok (.iaload, 1) := by decide +kernel
theorem dL_law_30 : decode cL_law 30 = .ok (.bipush 31, 2) := by decide +kernel
theorem dL_law_32 : decode cL_law 32 = .ok (.iand, 1) := by decide +kernel
theorem dL_law_33 : decode cL_law 33 = .ok (.tableswitch 1130 0 27 #[127, 140, 154, 168, 211, 284, 318, 381, 394, 447, 480, 533, 576, 599, 632, 665, 698, 731, 774, 807, 850, 883, 906, 949, 972, 995, 1028, 1097], 127) := by decide +kernel
theorem dL_law_160 : decode cL_law 160 = .ok (.aload_n 1, 1) := by decide +kernel
theorem dL_law_161 : decode cL_law 161 = .ok (.invokevirtual 13, 3) := by decide +kernel
theorem dL_law_164 : decode cL_law 164 = .ok (.aload_n 2, 1) := by decide +kernel
theorem dL_law_165 : decode cL_law 165 = .ok (.invokevirtual 17, 3) := by decide +kernel
theorem dL_law_168 : decode cL_law 168 = .ok (.if_icmp .eq 995, 3) := by decide +kernel
theorem dL_law_171 : decode cL_law 171 = .ok (.iconst 0, 1) := by decide +kernel
theorem dL_law_172 : decode cL_law 172 = .ok (.ireturn, 1) := by decide +kernel
theorem dL_law_173 : decode cL_law 173 = .ok (.aload_n 1, 1) := by decide +kernel
theorem dL_law_174 : decode cL_law 174 = .ok (.invokevirtual 18, 3) := by decide +kernel
theorem dL_law_177 : decode cL_law 177 = .ok (.aload_n 2, 1) := by decide +kernel
theorem dL_law_178 : decode cL_law 178 = .ok (.invokevirtual 22, 3) := by decide +kernel
theorem dL_law_181 : decode cL_law 181 = .ok (.lcmp, 1) := by decide +kernel
theorem dL_law_182 : decode cL_law 182 = .ok (.ifCond .eq 981, 3) := by decide +kernel
theorem dL_law_185 : decode cL_law 185 = .ok (.iconst 0, 1) := by decide +kernel
theorem dL_law_186 : decode cL_law 186 = .ok (.ireturn, 1) := by decide +kernel
theorem dL_law_187 : decode cL_law 187 = .ok (.aload_n 1, 1) := by decide +kernel
theorem dL_law_188 : decode cL_law 188 = .ok (.invokevirtual 23, 3) := by decide +kernel
theorem dL_law_191 : decode cL_law 191 = .ok (.aload_n 2, 1) := by decide +kernel
theorem dL_law_192 : decode cL_law 192 = .ok (.invokevirtual 26, 3) := by decide +kernel
theorem dL_law_195 : decode cL_law 195 = .ok (.lcmp, 1) := by decide +kernel
theorem dL_law_196 : decode cL_law 196 = .ok (.ifCond .eq 967, 3) := by decide +kernel
theorem dL_law_199 : decode cL_law 199 = .ok (.iconst 0, 1) := by decide +kernel
theorem dL_law_200 : decode cL_law 200 = .ok (.ireturn, 1) := by decide +kernel
theorem dL_law_201 : decode cL_law 201 = .ok (.aload_n 1, 1) := by decide +kernel
theorem dL_law_202 : decode cL_law 202 = .ok (.aload_n 0, 1) := by decide +kernel
theorem dL_law_203 : decode cL_law 203 = .ok (.iload_n 3, 1) := by decide +kernel
theorem dL_law_204 : decode cL_law 204 = .ok (.iconst 1, 1) := by decide +kernel
theorem dL_law_205 : decode cL_law 205 = .ok (.iadd, 1) := by decide +kernel
theorem dL_law_206 : decode cL_law 206 = .ok (.iaload, 1) := by decide +kernel
theorem dL_law_207 : decode cL_law 207 = .ok (.aload_n 0, 1) := by decide +kernel
theorem dL_law_208 : decode cL_law 208 = .ok (.iload_n 3, 1) := by decide +kernel
theorem dL_law_209 : decode cL_law 209 = .ok (.iconst 2, 1) := by decide +kernel
theorem dL_law_210 : decode cL_law 210 = .ok (.iadd, 1) := by decide +kernel
theorem dL_law_211 : decode cL_law 211 = .ok (.iaload, 1) := by decide +kernel
theorem dL_law_212 : decode cL_law 212 = .ok (.aload_n 0, 1) := by decide +kernel
theorem dL_law_213 : decode cL_law 213 = .ok (.iload_n 3, 1) := by decide +kernel
theorem dL_law_214 : decode cL_law 214 = .ok (.iconst 3, 1) := by decide +kernel
theorem dL_law_215 : decode cL_law 215 = .ok (.iadd, 1) := by decide +kernel
theorem dL_law_216 : decode cL_law 216 = .ok (.iaload, 1) := by decide +kernel
theorem dL_law_217 : decode cL_law 217 = .ok (.invokevirtual 27, 3) := by decide +kernel
theorem dL_law_220 : decode cL_law 220 = .ok (.aload_n 2, 1) := by decide +kernel
theorem dL_law_221 : decode cL_law 221 = .ok (.aload_n 0, 1) := by decide +kernel
theorem dL_law_222 : decode cL_law 222 = .ok (.iload_n 3, 1) := by decide +kernel
theorem dL_law_223 : decode cL_law 223 = .ok (.iconst 1, 1) := by decide +kernel
theorem dL_law_224 : decode cL_law 224 = .ok (.iadd, 1) := by decide +kernel
theorem dL_law_225 : decode cL_law 225 = .ok (.iaload, 1) := by decide +kernel
theorem dL_law_226 : decode cL_law 226 = .ok (.aload_n 0, 1) := by decide +kernel
theorem dL_law_227 : decode cL_law 227 = .ok (.iload_n 3, 1) := by decide +kernel
theorem dL_law_228 : decode cL_law 228 = .ok (.iconst 2, 1) := by decide +kernel
theorem dL_law_229 : decode cL_law 229 = .ok (.iadd, 1) := by decide +kernel
theorem dL_law_230 : decode cL_law 230 = .ok (.iaload, 1) := by decide +kernel
theorem dL_law_231 : decode cL_law 231 = .ok (.aload_n 0, 1) := by decide +kernel
theorem dL_law_232 : decode cL_law 232 = .ok (.iload_n 3, 1) := by decide +kernel
theorem dL_law_233 : decode cL_law 233 = .ok (.iconst 3, 1) := by decide +kernel
theorem dL_law_234 : decode cL_law 234 = .ok (.iadd, 1) := by decide +kernel
theorem dL_law_235 : decode cL_law 235 = .ok (.iaload, 1) := by decide +kernel
theorem dL_law_236 : decode cL_law 236 = .ok (.invokevirtual 31, 3) := by decide +kernel
theorem dL_law_239 : decode cL_law 239 = .ok (.if_icmp .eq 924, 3) := by decide +kernel
theorem dL_law_242 : decode cL_law 242 = .ok (.iconst 0, 1) := by decide +kernel
theorem dL_law_243 : decode cL_law 243 = .ok (.ireturn, 1) := by decide +kernel
theorem dL_law_244 : decode cL_law 244 = .ok (.aload_n 1, 1) := by decide +kernel
theorem dL_law_245 : decode cL_law 245 = .ok (.aload_n 0, 1) := by decide +kernel
theorem dL_law_246 : decode cL_law 246 = .ok (.iload_n 3, 1) := by decide +kernel
theorem dL_law_247 : decode cL_law 247 = .ok (.iconst 1, 1) := by decide +kernel
theorem dL_law_248 : decode cL_law 248 = .ok (.iadd, 1) := by decide +kernel
theorem dL_law_249 : decode cL_law 249 = .ok (.iaload, 1) := by decide +kernel
theorem dL_law_250 : decode cL_law 250 = .ok (.aload_n 0, 1) := by decide +kernel
theorem dL_law_251 : decode cL_law 251 = .ok (.iload_n 3, 1) := by decide +kernel
theorem dL_law_252 : decode cL_law 252 = .ok (.iconst 2, 1) := by decide +kernel
theorem dL_law_253 : decode cL_law 253 = .ok (.iadd, 1) := by decide +kernel
theorem dL_law_254 : decode cL_law 254 = .ok (.iaload, 1) := by decide +kernel
theorem dL_law_255 : decode cL_law 255 = .ok (.aload_n 0, 1) := by decide +kernel
theorem dL_law_256 : decode cL_law 256 = .ok (.iload_n 3, 1) := by decide +kernel
theorem dL_law_257 : decode cL_law 257 = .ok (.iconst 3, 1) := by decide +kernel
theorem dL_law_258 : decode cL_law 258 = .ok (.iadd, 1) := by decide +kernel
theorem dL_law_259 : decode cL_law 259 = .ok (.iaload, 1) := by decide +kernel
theorem dL_law_260 : decode cL_law 260 = .ok (.i2l, 1) := by decide +kernel
theorem dL_law_261 : decode cL_law 261 = .ok (.bipush 32, 2) := by decide +kernel
theorem dL_law_263 : decode cL_law 263 = .ok (.lshl, 1) := by decide +kernel
theorem dL_law_264 : decode cL_law 264 = .ok (.aload_n 0, 1) := by decide +kernel
theorem dL_law_265 : decode cL_law 265 = .ok (.iload_n 3, 1) := by decide +kernel
theorem dL_law_266 : decode cL_law 266 = .ok (.iconst 4, 1) := by decide +kernel
theorem dL_law_267 : decode cL_law 267 = .ok (.iadd, 1) := by decide +kernel
theorem dL_law_268 : decode cL_law 268 = .ok (.iaload, 1) := by decide +kernel
theorem dL_law_269 : decode cL_law 269 = .ok (.i2l, 1) := by decide +kernel
theorem dL_law_270 : decode cL_law 270 = .ok (.ldc2_w 32, 3) := by decide +kernel
theorem dL_law_273 : decode cL_law 273 = .ok (.land, 1) := by decide +kernel
theorem dL_law_274 : decode cL_law 274 = .ok (.lor, 1) := by decide +kernel
theorem dL_law_275 : decode cL_law 275 = .ok (.invokevirtual 34, 3) := by decide +kernel
theorem dL_law_278 : decode cL_law 278 = .ok (.aload_n 2, 1) := by decide +kernel
theorem dL_law_279 : decode cL_law 279 = .ok (.aload_n 0, 1) := by decide +kernel
theorem dL_law_280 : decode cL_law 280 = .ok (.iload_n 3, 1) := by decide +kernel
theorem dL_law_281 : decode cL_law 281 = .ok (.iconst 1, 1) := by decide +kernel
theorem dL_law_282 : decode cL_law 282 = .ok (.iadd, 1) := by decide +kernel
theorem dL_law_283 : decode cL_law 283 = .ok (.iaload, 1) := by decide +kernel
theorem dL_law_284 : decode cL_law 284 = .ok (.aload_n 0, 1) := by decide +kernel
theorem dL_law_285 : decode cL_law 285 = .ok (.iload_n 3, 1) := by decide +kernel
theorem dL_law_286 : decode cL_law 286 = .ok (.iconst 2, 1) := by decide +kernel
theorem dL_law_287 : decode cL_law 287 = .ok (.iadd, 1) := by decide +kernel
theorem dL_law_288 : decode cL_law 288 = .ok (.iaload, 1) := by decide +kernel
theorem dL_law_289 : decode cL_law 289 = .ok (.aload_n 0, 1) := by decide +kernel
theorem dL_law_290 : decode cL_law 290 = .ok (.iload_n 3, 1) := by decide +kernel
theorem dL_law_291 : decode cL_law 291 = .ok (.iconst 3, 1) := by decide +kernel
theorem dL_law_292 : decode cL_law 292 = .ok (.iadd, 1) := by decide +kernel
theorem dL_law_293 : decode cL_law 293 = .ok (.iaload, 1) := by decide +kernel
theorem dL_law_294 : decode cL_law 294 = .ok (.i2l, 1) := by decide +kernel
theorem dL_law_295 : decode cL_law 295 = .ok (.bipush 32, 2) := by decide +kernel
theorem dL_law_297 : decode cL_law 297 = .ok (.lshl, 1) := by decide +kernel
theorem dL_law_298 : decode cL_law 298 = .ok (.aload_n 0, 1) := by decide +kernel
theorem dL_law_299 : decode cL_law 299 = .ok (.iload_n 3, 1) := by decide +kernel
theorem dL_law_300 : decode cL_law 300 = .ok (.iconst 4, 1) := by decide +kernel
theorem dL_law_301 : decode cL_law 301 = .ok (.iadd, 1) := by decide +kernel
theorem dL_law_302 : decode cL_law 302 = .ok (.iaload, 1) := by decide +kernel
theorem dL_law_303 : decode cL_law 303 = .ok (.i2l, 1) := by decide +kernel
theorem dL_law_304 : decode cL_law 304 = .ok (.ldc2_w 32, 3) := by decide +kernel
theorem dL_law_307 : decode cL_law 307 = .ok (.land, 1) := by decide +kernel
theorem dL_law_308 : decode cL_law 308 = .ok (.lor, 1) := by decide +kernel
theorem dL_law_309 : decode cL_law 309 = .ok (.invokevirtual 38, 3) := by decide +kernel
theorem dL_law_312 : decode cL_law 312 = .ok (.if_icmp .eq 851, 3) := by decide +kernel
theorem dL_law_315 : decode cL_law 315 = .ok (.iconst 0, 1) := by decide +kernel
theorem dL_law_316 : decode cL_law 316 = .ok (.ireturn, 1) := by decide +kernel
theorem dL_law_317 : decode cL_law 317 = .ok (.aload_n 1, 1) := by decide +kernel
theorem dL_law_318 : decode cL_law 318 = .ok (.aload_n 0, 1) := by decide +kernel
theorem dL_law_319 : decode cL_law 319 = .ok (.iload_n 3, 1) := by decide +kernel
theorem dL_law_320 : decode cL_law 320 = .ok (.iconst 1, 1) := by decide +kernel
theorem dL_law_321 : decode cL_law 321 = .ok (.iadd, 1) := by decide +kernel
