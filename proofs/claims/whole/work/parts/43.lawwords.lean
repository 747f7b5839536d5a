set_option maxRecDepth 20000 in
theorem ggL_law_X8_init : GoodIn wsL_law wsX8_init := goodIn_r _ [8, 9, 10, 11, 12, 13, 14, 15, 16, 17, 18, 19, 20, 21, 22, 23, 24, 25, 26, 27, 28, 29, 30, 31, 32, 33, 34, 35, 36, 37, 38, 39, 40, 41, 42, 43, 44, 45, 46, 47, 48, 49, 50, 51, 52, 53, 54, 55, 56, 57, 58, 59, 60, 61, 62, 63, 64, 65, 66, 67, 68, 69, 70, 71, 72, 73, 74, 75, 76, 77, 78, 79, 80, 81, 82, 83, 84, 85, 86, 87, 88, 683, 684, 685, 656, 657, 658, 659, 660, 661, 662, 686, 687, 688, 689, 690, 691, 692, 693, 694, 695, 696, 697, 698, 699, 700, 701, 702, 703, 704, 705, 706, 707, 708] (by decide +kernel) (by decide +kernel)
set_option maxRecDepth 20000 in
theorem gL_law_X8_init : GoodIn wsL_law (wsX8_init) := ggL_law_X8_init
set_option maxRecDepth 20000 in
theorem ggL_law_X9_init : GoodIn wsL_law wsX9_init := goodIn_r _ [91, 92, 10, 11, 93, 94, 95, 96, 97, 46, 98, 99, 100, 101, 102, 103, 104, 105, 106, 107, 663, 664, 665, 666, 667, 668, 669, 670, 671, 672, 673, 674, 675, 676, 677, 678, 679, 680, 681, 682] (by decide +kernel) (by decide +kernel)
set_option maxRecDepth 20000 in
theorem gL_law_X9_init : GoodIn wsL_law (wsX9_init) := ggL_law_X9_init
set_option maxRecDepth 20000 in
theorem ggL_law_X8_resize : GoodIn wsL_law wsX8_resize := goodIn_r _ [111, 15, 27, 112, 113, 2, 114, 115, 116, 117, 14, 118, 44, 45, 47, 119, 120, 121, 26, 122, 123, 656, 657, 658, 659, 660, 661, 662, 683, 684, 685, 693, 694] (by decide +kernel) (by decide +kernel)
set_option maxRecDepth 20000 in
theorem gL_law_X8_resize : GoodIn wsL_law (wsV RL 13 RX8 yX8_resize wsX8_resize) := goodIn_app (goodIn_of _ (by decide +kernel)) ggL_law_X8_resize
set_option maxRecDepth 20000 in
theorem ggL_law_X9_resize : GoodIn wsL_law wsX9_resize := goodIn_r _ [127, 106, 107, 128, 98, 129, 130, 5, 131, 663, 664, 665, 666, 667, 668, 669, 670, 671, 672, 673, 674, 675, 676, 677, 678, 679, 680, 681, 682] (by decide +kernel) (by decide +kernel)
set_option maxRecDepth 20000 in
theorem gL_law_X9_resize : GoodIn wsL_law (wsV RL 17 RX9 yX9_resize wsX9_resize) := goodIn_app (goodIn_of _ (by decide +kernel)) ggL_law_X9_resize
set_option maxRecDepth 20000 in
theorem ggL_law_X8_setHeight : GoodIn wsL_law wsX8_setHeight := goodIn_r _ [135, 15, 136, 137, 138, 14, 139, 44, 45, 112, 113, 2, 114, 140, 141, 142, 143, 47, 144, 145, 146, 147, 656, 657, 658, 659, 660, 661, 662, 683, 684, 685] (by decide +kernel) (by decide +kernel)
set_option maxRecDepth 20000 in
theorem gL_law_X8_setHeight : GoodIn wsL_law (wsV RL 18 RX8 yX8_setHeight wsX8_setHeight) := goodIn_app (goodIn_of _ (by decide +kernel)) ggL_law_X8_setHeight
set_option maxRecDepth 20000 in
theorem ggL_law_X9_setHeight : GoodIn wsL_law wsX9_setHeight := goodIn_r _ [151, 98, 152, 153, 154, 5, 155, 106, 107, 129, 130, 131, 663, 664, 665, 666, 667, 668, 669, 670, 671, 672, 673, 674, 675, 676, 677, 678, 679, 680, 681, 682] (by decide +kernel) (by decide +kernel)
set_option maxRecDepth 20000 in
theorem gL_law_X9_setHeight : GoodIn wsL_law (wsV RL 22 RX9 yX9_setHeight wsX9_setHeight) := goodIn_app (goodIn_of _ (by decide +kernel)) ggL_law_X9_setHeight
set_option maxRecDepth 20000 in
theorem ggL_law_X8_raiseHill : GoodIn wsL_law wsX8_raiseHill := goodIn_r _ [159, 15, 136, 137, 138, 14, 139, 44, 45, 112, 113, 2, 114, 160, 161, 162, 163, 164, 165, 166, 167, 168, 169, 170, 171, 172, 173, 174, 175, 176, 141, 142, 143, 47, 177, 145, 146, 147, 656, 657, 658, 659, 660, 661, 662, 683, 684, 685] (by decide +kernel) (by decide +kernel)
set_option maxRecDepth 20000 in
theorem gL_law_X8_raiseHill : GoodIn wsL_law (wsV RL 23 RX8 yX8_raiseHill wsX8_raiseHill) := goodIn_app (goodIn_of _ (by decide +kernel)) ggL_law_X8_raiseHill
set_option maxRecDepth 20000 in
theorem ggL_law_X9_raiseHill : GoodIn wsL_law wsX9_raiseHill := goodIn_r _ [181, 106, 107, 98, 152, 153, 154, 5, 155, 129, 130, 131, 182, 183, 184, 663, 664, 665, 666, 667, 668, 669, 670, 671, 672, 673, 674, 675, 676, 677, 678, 679, 680, 681, 682] (by decide +kernel) (by decide +kernel)
set_option maxRecDepth 20000 in
theorem gL_law_X9_raiseHill : GoodIn wsL_law (wsV RL 27 RX9 yX9_raiseHill wsX9_raiseHill) := goodIn_app (goodIn_of _ (by decide +kernel)) ggL_law_X9_raiseHill
set_option maxRecDepth 20000 in
theorem ggL_law_X8_height : GoodIn wsL_law wsX8_height := goodIn_r _ [188, 15, 136, 137, 138, 14, 139, 44, 45, 140, 141, 142, 143, 47, 656, 657, 658, 659, 660, 661, 662, 683, 684, 685] (by decide +kernel) (by decide +kernel)
set_option maxRecDepth 20000 in
theorem gL_law_X8_height : GoodIn wsL_law (wsV RL 28 RX8 yX8_height wsX8_height) := goodIn_app (goodIn_of _ (by decide +kernel)) ggL_law_X8_height
set_option maxRecDepth 20000 in
theorem ggL_law_X9_height : GoodIn wsL_law wsX9_height := goodIn_r _ [192, 98, 152, 153, 154, 5, 155, 106, 107, 129, 130, 131, 663, 664, 665, 666, 667, 668, 669, 670, 671, 672, 673, 674, 675, 676, 677, 678, 679, 680, 681, 682] (by decide +kernel) (by decide +kernel)
set_option maxRecDepth 20000 in
theorem gL_law_X9_height : GoodIn wsL_law (wsV RL 31 RX9 yX9_height wsX9_height) := goodIn_app (goodIn_of _ (by decide +kernel)) ggL_law_X9_height
set_option maxRecDepth 20000 in
theorem ggL_law_X8_setAltitude : GoodIn wsL_law wsX8_setAltitude := goodIn_r _ [196, 19, 197, 112, 113, 2, 114, 656, 657, 658, 659, 660, 661, 662, 686, 687, 688, 689] (by decide +kernel) (by decide +kernel)
set_option maxRecDepth 20000 in
theorem gL_law_X8_setAltitude : GoodIn wsL_law (wsV RL 32 RX8 yX8_setAltitude wsX8_setAltitude) := goodIn_app (goodIn_of _ (by decide +kernel)) ggL_law_X8_setAltitude
set_option maxRecDepth 20000 in
theorem ggL_law_X9_setAltitude : GoodIn wsL_law wsX9_setAltitude := goodIn_r _ [201, 93, 129, 130, 5, 131, 663, 664, 665, 666, 667, 668, 669, 670, 671, 672, 673, 674, 675, 676, 677, 678, 679, 680, 681, 682] (by decide +kernel) (by decide +kernel)
set_option maxRecDepth 20000 in
theorem gL_law_X9_setAltitude : GoodIn wsL_law (wsV RL 36 RX9 yX9_setAltitude wsX9_setAltitude) := goodIn_app (goodIn_of _ (by decide +kernel)) ggL_law_X9_setAltitude
set_option maxRecDepth 20000 in
theorem ggL_law_X8_setFields : GoodIn wsL_law wsX8_setFields := goodIn_r _ [205, 19, 206, 207, 112, 113, 2, 114, 656, 657, 658, 659, 660, 661, 662, 686, 687, 688, 689] (by decide +kernel) (by decide +kernel)
set_option maxRecDepth 20000 in
theorem gL_law_X8_setFields : GoodIn wsL_law (wsV RL 37 RX8 yX8_setFields wsX8_setFields) := goodIn_app (goodIn_of _ (by decide +kernel)) ggL_law_X8_setFields
set_option maxRecDepth 20000 in
theorem ggL_law_X9_setFields : GoodIn wsL_law wsX9_setFields := goodIn_r _ [211, 94, 95, 129, 130, 5, 131, 663, 664, 665, 666, 667, 668, 669, 670, 671, 672, 673, 674, 675, 676, 677, 678, 679, 680, 681, 682] (by decide +kernel) (by decide +kernel)
set_option maxRecDepth 20000 in
theorem gL_law_X9_setFields : GoodIn wsL_law (wsV RL 40 RX9 yX9_setFields wsX9_setFields) := goodIn_app (goodIn_of _ (by decide +kernel)) ggL_law_X9_setFields
set_option maxRecDepth 20000 in
theorem ggL_law_X8_setCrab : GoodIn wsL_law wsX8_setCrab := goodIn_r _ [215, 19, 216, 112, 113, 2, 114, 656, 657, 658, 659, 660, 661, 662, 686, 687, 688, 689] (by decide +kernel) (by decide +kernel)
set_option maxRecDepth 20000 in
theorem gL_law_X8_setCrab : GoodIn wsL_law (wsV RL 41 RX8 yX8_setCrab wsX8_setCrab) := goodIn_app (goodIn_of _ (by decide +kernel)) ggL_law_X8_setCrab
set_option maxRecDepth 20000 in
theorem ggL_law_X9_setCrab : GoodIn wsL_law wsX9_setCrab := goodIn_r _ [220, 221, 129, 130, 5, 131, 663, 664, 665, 666, 667, 668, 669, 670, 671, 672, 673, 674, 675, 676, 677, 678, 679, 680, 681, 682] (by decide +kernel) (by decide +kernel)
set_option maxRecDepth 20000 in
theorem gL_law_X9_setCrab : GoodIn wsL_law (wsV RL 44 RX9 yX9_setCrab wsX9_setCrab) := goodIn_app (goodIn_of _ (by decide +kernel)) ggL_law_X9_setCrab
set_option maxRecDepth 20000 in
theorem ggL_law_X8_setSpeed : GoodIn wsL_law wsX8_setSpeed := goodIn_r _ [225, 23, 226, 227, 228, 112, 113, 2, 114, 656, 657, 658, 659, 660, 661, 662, 690, 691, 692] (by decide +kernel) (by decide +kernel)
set_option maxRecDepth 20000 in
theorem gL_law_X8_setSpeed : GoodIn wsL_law (wsV RL 45 RX8 yX8_setSpeed wsX8_setSpeed) := goodIn_app (goodIn_of _ (by decide +kernel)) ggL_law_X8_setSpeed
set_option maxRecDepth 20000 in
theorem ggL_law_X9_setSpeed : GoodIn wsL_law wsX9_setSpeed := goodIn_r _ [232, 96, 233, 97, 129, 130, 5, 131, 663, 664, 665, 666, 667, 668, 669, 670, 671, 672, 673, 674, 675, 676, 677, 678, 679, 680, 681, 682] (by decide +kernel) (by decide +kernel)
set_option maxRecDepth 20000 in
theorem gL_law_X9_setSpeed : GoodIn wsL_law (wsV RL 48 RX9 yX9_setSpeed wsX9_setSpeed) := goodIn_app (goodIn_of _ (by decide +kernel)) ggL_law_X9_setSpeed
set_option maxRecDepth 20000 in
theorem ggL_law_X8_addStrip : GoodIn wsL_law wsX8_addStrip := goodIn_r _ [237, 15, 27, 136, 137, 138, 14, 139, 44, 45, 112, 113, 2, 114, 238, 239, 240, 26, 241, 123, 68, 242, 243, 244, 70, 245, 246, 247, 248, 249, 656, 657, 658, 659, 660, 661, 662, 683, 684, 685, 693, 694, 705, 706, 707, 708] (by decide +kernel) (by decide +kernel)
set_option maxRecDepth 20000 in
theorem gL_law_X8_addStrip : GoodIn wsL_law (wsV RL 49 RX8 yX8_addStrip wsX8_addStrip) := goodIn_app (goodIn_of _ (by decide +kernel)) ggL_law_X8_addStrip
set_option maxRecDepth 20000 in
theorem ggL_law_X9_addStrip : GoodIn wsL_law wsX9_addStrip := goodIn_r _ [253, 128, 152, 153, 154, 5, 155, 106, 107, 129, 130, 131, 254, 255, 256, 257, 99, 100, 101, 102, 663, 664, 665, 666, 667, 668, 669, 670, 671, 672, 673, 674, 675, 676, 677, 678, 679, 680, 681, 682] (by decide +kernel) (by decide +kernel)
set_option maxRecDepth 20000 in
theorem gL_law_X9_addStrip : GoodIn wsL_law (wsV RL 52 RX9 yX9_addStrip wsX9_addStrip) := goodIn_app (goodIn_of _ (by decide +kernel)) ggL_law_X9_addStrip
set_option maxRecDepth 20000 in
theorem ggL_law_X8_removeStrip : GoodIn wsL_law wsX8_removeStrip := goodIn_r _ [261, 27, 262, 263, 264, 265, 26, 266, 123, 68, 267, 268, 269, 270, 271, 272, 273, 274, 275, 242, 243, 244, 70, 245, 246, 247, 248, 249, 656, 657, 658, 659, 660, 661, 662, 693, 694, 705, 706, 707, 708] (by decide +kernel) (by decide +kernel)
set_option maxRecDepth 20000 in
theorem gL_law_X8_removeStrip : GoodIn wsL_law (wsV RL 53 RX8 yX8_removeStrip wsX8_removeStrip) := goodIn_app (goodIn_of _ (by decide +kernel)) ggL_law_X8_removeStrip
set_option maxRecDepth 20000 in
theorem ggL_law_X9_removeStrip : GoodIn wsL_law wsX9_removeStrip := goodIn_r _ [279, 128, 99, 100, 101, 102, 280, 281, 282, 5, 283, 129, 130, 131, 663, 664, 665, 666, 667, 668, 669, 670, 671, 672, 673, 674, 675, 676, 677, 678, 679, 680, 681, 682] (by decide +kernel) (by decide +kernel)
set_option maxRecDepth 20000 in
theorem gL_law_X9_removeStrip : GoodIn wsL_law (wsV RL 56 RX9 yX9_removeStrip wsX9_removeStrip) := goodIn_app (goodIn_of _ (by decide +kernel)) ggL_law_X9_removeStrip
set_option maxRecDepth 20000 in
theorem ggL_law_X8_stripCount : GoodIn wsL_law wsX8_stripCount := goodIn_r _ [287, 27, 262, 656, 657, 658, 659, 660, 661, 662, 693, 694] (by decide +kernel) (by decide +kernel)
set_option maxRecDepth 20000 in
theorem gL_law_X8_stripCount : GoodIn wsL_law (wsV RL 57 RX8 yX8_stripCount wsX8_stripCount) := goodIn_app (goodIn_of _ (by decide +kernel)) ggL_law_X8_stripCount
set_option maxRecDepth 20000 in
theorem ggL_law_X9_stripCount : GoodIn wsL_law wsX9_stripCount := goodIn_r _ [291, 128, 663, 664, 665, 666, 667, 668, 669, 670, 671, 672, 673, 674, 675, 676, 677, 678, 679, 680, 681, 682] (by decide +kernel) (by decide +kernel)
set_option maxRecDepth 20000 in
theorem gL_law_X9_stripCount : GoodIn wsL_law (wsV RL 61 RX9 yX9_stripCount wsX9_stripCount) := goodIn_app (goodIn_of _ (by decide +kernel)) ggL_law_X9_stripCount
set_option maxRecDepth 20000 in
theorem ggL_law_X8_photoCount : GoodIn wsL_law wsX8_photoCount := goodIn_r _ [295, 27, 263, 264, 265, 26, 266, 123, 68, 296, 297, 298, 70, 299, 248, 247, 249, 174, 2, 175, 656, 657, 658, 659, 660, 661, 662, 693, 694, 705, 706, 707, 708] (by decide +kernel) (by decide +kernel)
set_option maxRecDepth 20000 in
theorem gL_law_X8_photoCount : GoodIn wsL_law (wsV RL 62 RX8 yX8_photoCount wsX8_photoCount) := goodIn_app (goodIn_of _ (by decide +kernel)) ggL_law_X8_photoCount
set_option maxRecDepth 20000 in
theorem ggL_law_X9_photoCount : GoodIn wsL_law wsX9_photoCount := goodIn_r _ [303, 280, 281, 282, 5, 283, 128, 129, 130, 131, 304, 305, 306, 307, 101, 100, 102, 663, 664, 665, 666, 667, 668, 669, 670, 671, 672, 673, 674, 675, 676, 677, 678, 679, 680, 681, 682] (by decide +kernel) (by decide +kernel)
set_option maxRecDepth 20000 in
theorem gL_law_X9_photoCount : GoodIn wsL_law (wsV RL 65 RX9 yX9_photoCount wsX9_photoCount) := goodIn_app (goodIn_of _ (by decide +kernel)) ggL_law_X9_photoCount
set_option maxRecDepth 20000 in
theorem ggL_law_X8_photoColumn : GoodIn wsL_law wsX8_photoColumn := goodIn_r _ [311, 27, 263, 264, 265, 26, 266, 123, 68, 312, 313, 314, 70, 315, 316, 297, 298, 299, 248, 247, 249, 174, 2, 175, 317, 318, 319, 320, 656, 657, 658, 659, 660, 661, 662, 693, 694, 705, 706, 707, 708] (by decide +kernel) (by decide +kernel)
set_option maxRecDepth 20000 in
theorem gL_law_X8_photoColumn : GoodIn wsL_law (wsV RL 66 RX8 yX8_photoColumn wsX8_photoColumn) := goodIn_app (goodIn_of _ (by decide +kernel)) ggL_law_X8_photoColumn
set_option maxRecDepth 20000 in
theorem ggL_law_X9_photoColumn : GoodIn wsL_law wsX9_photoColumn := goodIn_r _ [324, 325, 326, 327, 5, 328, 280, 281, 282, 283, 128, 129, 130, 131, 304, 305, 306, 307, 101, 100, 102, 329, 330, 331, 332, 663, 664, 665, 666, 667, 668, 669, 670, 671, 672, 673, 674, 675, 676, 677, 678, 679, 680, 681, 682] (by decide +kernel) (by decide +kernel)
set_option maxRecDepth 20000 in
theorem gL_law_X9_photoColumn : GoodIn wsL_law (wsV RL 69 RX9 yX9_photoColumn wsX9_photoColumn) := goodIn_app (goodIn_of _ (by decide +kernel)) ggL_law_X9_photoColumn
set_option maxRecDepth 20000 in
theorem ggL_law_X8_seesCell : GoodIn wsL_law wsX8_seesCell := goodIn_r _ [336, 27, 15, 19, 337, 263, 264, 265, 26, 266, 123, 68, 312, 313, 314, 70, 315, 316, 297, 298, 299, 248, 247, 249, 174, 2, 175, 136, 137, 138, 14, 139, 44, 45, 317, 318, 319, 320, 338, 339, 340, 18, 341, 52, 55, 342, 165, 166, 167, 53, 54, 343, 141, 142, 143, 47, 344, 345, 346, 347, 348, 169, 170, 349, 350, 351, 352, 656, 657, 658, 659, 660, 661, 662, 705, 706, 707, 708, 693, 694, 683, 684, 685, 686, 687, 688, 689] (by decide +kernel) (by decide +kernel)
set_option maxRecDepth 20000 in
theorem gL_law_X8_seesCell : GoodIn wsL_law (wsV RL 70 RX8 yX8_seesCell wsX8_seesCell) := goodIn_app (goodIn_of _ (by decide +kernel)) ggL_law_X8_seesCell
set_option maxRecDepth 20000 in
theorem ggL_law_X9_seesCell : GoodIn wsL_law wsX9_seesCell := goodIn_r _ [356, 99, 325, 326, 327, 5, 328, 280, 281, 282, 283, 128, 129, 130, 131, 304, 305, 306, 307, 101, 100, 102, 152, 153, 154, 155, 106, 107, 329, 330, 331, 332, 357, 358, 359, 360, 98, 93, 221, 94, 95, 182, 183, 184, 361, 362, 363, 364, 365, 366, 367, 663, 664, 665, 666, 667, 668, 669, 670, 671, 672, 673, 674, 675, 676, 677, 678, 679, 680, 681, 682] (by decide +kernel) (by decide +kernel)
set_option maxRecDepth 20000 in
theorem gL_law_X9_seesCell : GoodIn wsL_law (wsV RL 73 RX9 yX9_seesCell wsX9_seesCell) := goodIn_app (goodIn_of _ (by decide +kernel)) ggL_law_X9_seesCell
set_option maxRecDepth 20000 in
theorem ggL_law_X8_footprintSize : GoodIn wsL_law wsX8_footprintSize := goodIn_r _ [371, 27, 15, 372, 373, 19, 337, 263, 264, 265, 26, 266, 123, 68, 312, 313, 314, 70, 315, 316, 297, 298, 299, 248, 247, 249, 174, 2, 175, 317, 318, 319, 320, 338, 339, 340, 18, 341, 52, 55, 342, 165, 166, 167, 53, 54, 343, 141, 142, 14, 143, 47, 344, 345, 346, 347, 348, 169, 170, 349, 350, 351, 352, 656, 657, 658, 659, 660, 661, 662, 683, 684, 685, 705, 706, 707, 708, 693, 694, 686, 687, 688, 689] (by decide +kernel) (by decide +kernel)
set_option maxRecDepth 20000 in
theorem gL_law_X8_footprintSize : GoodIn wsL_law (wsV RL 74 RX8 yX8_footprintSize wsX8_footprintSize) := goodIn_app (goodIn_of _ (by decide +kernel)) ggL_law_X8_footprintSize
set_option maxRecDepth 20000 in
theorem ggL_law_X9_footprintSize : GoodIn wsL_law wsX9_footprintSize := goodIn_r _ [377, 325, 326, 327, 5, 328, 280, 281, 282, 283, 128, 129, 130, 131, 304, 305, 306, 307, 101, 100, 102, 378, 379, 380, 381, 106, 107, 382, 383, 384, 385, 99, 329, 330, 331, 332, 357, 358, 359, 360, 98, 93, 221, 94, 95, 182, 183, 184, 361, 362, 363, 364, 365, 366, 367, 663, 664, 665, 666, 667, 668, 669, 670, 671, 672, 673, 674, 675, 676, 677, 678, 679, 680, 681, 682] (by decide +kernel) (by decide +kernel)
set_option maxRecDepth 20000 in
theorem gL_law_X9_footprintSize : GoodIn wsL_law (wsV RL 77 RX9 yX9_footprintSize wsX9_footprintSize) := goodIn_app (goodIn_of _ (by decide +kernel)) ggL_law_X9_footprintSize
set_option maxRecDepth 20000 in
theorem ggL_law_X8_coverage : GoodIn wsL_law wsX8_coverage := goodIn_r _ [389, 15, 27, 19, 390, 136, 137, 138, 14, 139, 44, 45, 391, 392, 393, 26, 394, 123, 68, 271, 395, 297, 298, 70, 299, 248, 247, 249, 174, 2, 175, 396, 318, 319, 320, 397, 339, 340, 18, 341, 52, 55, 342, 165, 166, 167, 53, 54, 343, 141, 142, 143, 47, 344, 345, 346, 347, 348, 169, 170, 349, 350, 351, 352, 656, 657, 658, 659, 660, 661, 662, 683, 684, 685, 693, 694, 705, 706, 707, 708, 686, 687, 688, 689] (by decide +kernel) (by decide +kernel)
set_option maxRecDepth 20000 in
theorem gL_law_X8_coverage : GoodIn wsL_law (wsV RL 78 RX8 yX8_coverage wsX8_coverage) := goodIn_app (goodIn_of _ (by decide +kernel)) ggL_law_X8_coverage
set_option maxRecDepth 20000 in
theorem ggL_law_X9_coverage : GoodIn wsL_law wsX9_coverage := goodIn_r _ [401, 107, 152, 153, 154, 5, 155, 106, 129, 130, 131, 402, 403, 404, 405, 128, 304, 305, 306, 307, 101, 100, 102, 382, 383, 384, 385, 99, 329, 330, 331, 332, 357, 358, 359, 360, 98, 93, 221, 94, 95, 182, 183, 184, 361, 362, 363, 364, 365, 366, 367, 663, 664, 665, 666, 667, 668, 669, 670, 671, 672, 673, 674, 675, 676, 677, 678, 679, 680, 681, 682] (by decide +kernel) (by decide +kernel)
set_option maxRecDepth 20000 in
theorem gL_law_X9_coverage : GoodIn wsL_law (wsV RL 81 RX9 yX9_coverage wsX9_coverage) := goodIn_app (goodIn_of _ (by decide +kernel)) ggL_law_X9_coverage
set_option maxRecDepth 20000 in
theorem ggL_law_X8_gapCount : GoodIn wsL_law wsX8_gapCount := goodIn_r _ [409, 15, 372, 373, 27, 19, 112, 113, 2, 114, 391, 392, 393, 26, 394, 123, 68, 271, 395, 297, 298, 70, 299, 248, 247, 249, 174, 175, 396, 318, 319, 320, 397, 339, 340, 18, 341, 52, 55, 342, 165, 166, 167, 53, 54, 343, 141, 142, 14, 143, 47, 344, 345, 346, 347, 348, 169, 170, 349, 350, 351, 352, 656, 657, 658, 659, 660, 661, 662, 683, 684, 685, 693, 694, 705, 706, 707, 708, 686, 687, 688, 689] (by decide +kernel) (by decide +kernel)
set_option maxRecDepth 20000 in
theorem gL_law_X8_gapCount : GoodIn wsL_law (wsV RL 82 RX8 yX8_gapCount wsX8_gapCount) := goodIn_app (goodIn_of _ (by decide +kernel)) ggL_law_X8_gapCount
set_option maxRecDepth 20000 in
theorem ggL_law_X9_gapCount : GoodIn wsL_law wsX9_gapCount := goodIn_r _ [413, 106, 107, 414, 415, 5, 416, 129, 130, 131, 402, 403, 404, 405, 128, 304, 305, 306, 307, 101, 100, 102, 382, 383, 384, 385, 99, 329, 330, 331, 332, 357, 358, 359, 360, 98, 93, 221, 94, 95, 182, 183, 184, 361, 362, 363, 364, 365, 366, 367, 663, 664, 665, 666, 667, 668, 669, 670, 671, 672, 673, 674, 675, 676, 677, 678, 679, 680, 681, 682] (by decide +kernel) (by decide +kernel)
set_option maxRecDepth 20000 in
theorem gL_law_X9_gapCount : GoodIn wsL_law (wsV RL 85 RX9 yX9_gapCount wsX9_gapCount) := goodIn_app (goodIn_of _ (by decide +kernel)) ggL_law_X9_gapCount
set_option maxRecDepth 20000 in
theorem ggL_law_X8_gapAt : GoodIn wsL_law wsX8_gapAt := goodIn_r _ [420, 15, 372, 373, 27, 19, 112, 113, 2, 114, 391, 392, 393, 26, 394, 123, 68, 271, 395, 297, 298, 70, 299, 248, 247, 249, 174, 175, 396, 318, 319, 320, 397, 339, 340, 18, 341, 52, 55, 342, 165, 166, 167, 53, 54, 343, 141, 142, 14, 143, 47, 344, 345, 346, 347, 348, 169, 170, 349, 350, 351, 352, 656, 657, 658, 659, 660, 661, 662, 683, 684, 685, 693, 694, 705, 706, 707, 708, 686, 687, 688, 689] (by decide +kernel) (by decide +kernel)
set_option maxRecDepth 20000 in
theorem gL_law_X8_gapAt : GoodIn wsL_law (wsV RL 86 RX8 yX8_gapAt wsX8_gapAt) := goodIn_app (goodIn_of _ (by decide +kernel)) ggL_law_X8_gapAt
set_option maxRecDepth 20000 in
theorem ggL_law_X9_gapAt : GoodIn wsL_law wsX9_gapAt := goodIn_r _ [424, 106, 107, 414, 415, 5, 416, 129, 130, 131, 402, 403, 404, 405, 128, 304, 305, 306, 307, 101, 100, 102, 382, 383, 384, 385, 99, 329, 330, 331, 332, 357, 358, 359, 360, 98, 93, 221, 94, 95, 182, 183, 184, 361, 362, 363, 364, 365, 366, 367, 663, 664, 665, 666, 667, 668, 669, 670, 671, 672, 673, 674, 675, 676, 677, 678, 679, 680, 681, 682] (by decide +kernel) (by decide +kernel)
set_option maxRecDepth 20000 in
theorem gL_law_X9_gapAt : GoodIn wsL_law (wsV RL 89 RX9 yX9_gapAt wsX9_gapAt) := goodIn_app (goodIn_of _ (by decide +kernel)) ggL_law_X9_gapAt
set_option maxRecDepth 20000 in
theorem ggL_law_X8_forwardOverlap : GoodIn wsL_law wsX8_forwardOverlap := goodIn_r _ [428, 27, 31, 15, 372, 373, 19, 337, 263, 264, 265, 26, 266, 123, 68, 312, 313, 314, 70, 315, 316, 297, 298, 299, 248, 247, 249, 174, 2, 175, 317, 318, 319, 320, 429, 430, 431, 30, 432, 433, 434, 435, 338, 339, 340, 18, 341, 52, 55, 342, 165, 166, 167, 53, 54, 343, 141, 142, 14, 143, 47, 344, 345, 346, 347, 348, 169, 170, 349, 350, 351, 352, 436, 437, 438, 439, 440, 441, 442, 443, 444, 172, 173, 656, 657, 658, 659, 660, 661, 662, 683, 684, 685, 705, 706, 707, 708, 693, 694, 695, 696, 697, 686, 687, 688, 689] (by decide +kernel) (by decide +kernel)
set_option maxRecDepth 20000 in
theorem gL_law_X8_forwardOverlap : GoodIn wsL_law (wsV RL 90 RX8 yX8_forwardOverlap wsX8_forwardOverlap) := goodIn_app (goodIn_of _ (by decide +kernel)) ggL_law_X8_forwardOverlap
set_option maxRecDepth 20000 in
theorem ggL_law_X9_forwardOverlap : GoodIn wsL_law wsX9_forwardOverlap := goodIn_r _ [448, 106, 107, 325, 326, 327, 5, 328, 280, 281, 282, 283, 128, 129, 130, 131, 304, 305, 306, 307, 101, 100, 102, 382, 383, 384, 385, 99, 329, 330, 331, 332, 357, 358, 359, 360, 98, 93, 221, 94, 95, 182, 183, 184, 361, 362, 363, 364, 365, 366, 367, 378, 379, 380, 381, 449, 450, 451, 663, 664, 665, 666, 667, 668, 669, 670, 671, 672, 673, 674, 675, 676, 677, 678, 679, 680, 681, 682] (by decide +kernel) (by decide +kernel)
set_option maxRecDepth 20000 in
theorem gL_law_X9_forwardOverlap : GoodIn wsL_law (wsV RL 93 RX9 yX9_forwardOverlap wsX9_forwardOverlap) := goodIn_app (goodIn_of _ (by decide +kernel)) ggL_law_X9_forwardOverlap
set_option maxRecDepth 20000 in
theorem ggL_law_X8_sideOverlap : GoodIn wsL_law wsX8_sideOverlap := goodIn_r _ [455, 27, 31, 15, 372, 373, 19, 263, 264, 265, 26, 266, 123, 68, 429, 430, 431, 30, 432, 433, 434, 435, 456, 457, 458, 70, 459, 246, 316, 297, 298, 299, 248, 247, 249, 174, 2, 175, 460, 318, 319, 320, 461, 339, 340, 18, 341, 52, 55, 342, 165, 166, 167, 53, 54, 343, 141, 142, 14, 143, 47, 344, 345, 346, 347, 348, 169, 170, 349, 350, 351, 352, 436, 437, 438, 439, 440, 441, 442, 443, 444, 172, 173, 656, 657, 658, 659, 660, 661, 662, 683, 684, 685, 693, 694, 695, 696, 697, 705, 706, 707, 708, 686, 687, 688, 689] (by decide +kernel) (by decide +kernel)
set_option maxRecDepth 20000 in
theorem gL_law_X8_sideOverlap : GoodIn wsL_law (wsV RL 94 RX8 yX8_sideOverlap wsX8_sideOverlap) := goodIn_app (goodIn_of _ (by decide +kernel)) ggL_law_X8_sideOverlap
set_option maxRecDepth 20000 in
theorem ggL_law_X9_sideOverlap : GoodIn wsL_law wsX9_sideOverlap := goodIn_r _ [465, 106, 107, 280, 281, 282, 5, 283, 128, 129, 130, 131, 466, 467, 468, 469, 304, 305, 306, 307, 101, 100, 102, 382, 383, 384, 385, 99, 329, 330, 331, 332, 357, 358, 359, 360, 98, 93, 221, 94, 95, 182, 183, 184, 361, 362, 363, 364, 365, 366, 367, 449, 450, 451, 663, 664, 665, 666, 667, 668, 669, 670, 671, 672, 673, 674, 675, 676, 677, 678, 679, 680, 681, 682] (by decide +kernel) (by decide +kernel)
set_option maxRecDepth 20000 in
theorem gL_law_X9_sideOverlap : GoodIn wsL_law (wsV RL 97 RX9 yX9_sideOverlap wsX9_sideOverlap) := goodIn_app (goodIn_of _ (by decide +kernel)) ggL_law_X9_sideOverlap
set_option maxRecDepth 20000 in
theorem ggL_law_X8_planPhotos : GoodIn wsL_law wsX8_planPhotos := goodIn_r _ [473, 35, 15, 19, 474, 112, 113, 2, 114, 475, 476, 477, 34, 478, 479, 480, 82, 481, 482, 483, 484, 485, 486, 26, 487, 488, 68, 489, 174, 175, 490, 120, 121, 122, 123, 491, 239, 240, 241, 242, 243, 244, 70, 245, 246, 247, 248, 249, 492, 493, 494, 495, 395, 297, 298, 299, 496, 497, 498, 499, 500, 392, 393, 394, 271, 396, 318, 319, 320, 397, 339, 340, 18, 341, 52, 55, 342, 165, 166, 167, 53, 54, 343, 141, 142, 14, 143, 47, 344, 345, 346, 347, 348, 169, 170, 349, 350, 351, 352, 656, 657, 658, 659, 660, 661, 662, 698, 699, 700, 701, 683, 684, 685, 693, 694, 705, 706, 707, 708, 686, 687, 688, 689] (by decide +kernel) (by decide +kernel)
set_option maxRecDepth 20000 in
theorem gL_law_X8_planPhotos : GoodIn wsL_law (wsV RL 98 RX8 yX8_planPhotos wsX8_planPhotos) := goodIn_app (goodIn_of _ (by decide +kernel)) ggL_law_X8_planPhotos
set_option maxRecDepth 20000 in
theorem ggL_law_X9_planPhotos : GoodIn wsL_law wsX9_planPhotos := goodIn_r _ [504, 505, 414, 415, 5, 416, 129, 130, 131, 506, 507, 508, 509, 510, 106, 107, 511, 512, 513, 514, 515, 516, 104, 357, 358, 359, 360, 98, 93, 221, 94, 95, 182, 183, 184, 361, 362, 363, 364, 365, 366, 367, 517, 518, 519, 520, 521, 522, 523, 524, 663, 664, 665, 666, 667, 668, 669, 670, 671, 672, 673, 674, 675, 676, 677, 678, 679, 680, 681, 682] (by decide +kernel) (by decide +kernel)
set_option maxRecDepth 20000 in
theorem gL_law_X9_planPhotos : GoodIn wsL_law (wsV RL 101 RX9 yX9_planPhotos wsX9_planPhotos) := goodIn_app (goodIn_of _ (by decide +kernel)) ggL_law_X9_planPhotos
set_option maxRecDepth 20000 in
theorem ggL_law_X8_planRowSpacing : GoodIn wsL_law wsX8_planRowSpacing := goodIn_r _ [528, 35, 15, 19, 529, 112, 113, 2, 114, 475, 476, 477, 34, 478, 479, 480, 82, 481, 482, 483, 484, 485, 486, 26, 487, 488, 68, 489, 174, 175, 490, 120, 121, 122, 123, 491, 239, 240, 241, 242, 243, 244, 70, 245, 246, 247, 248, 249, 492, 493, 494, 495, 395, 297, 298, 299, 496, 497, 498, 499, 500, 392, 393, 394, 271, 396, 318, 319, 320, 397, 339, 340, 18, 341, 52, 55, 342, 165, 166, 167, 53, 54, 343, 141, 142, 14, 143, 47, 344, 345, 346, 347, 348, 169, 170, 349, 350, 351, 352, 656, 657, 658, 659, 660, 661, 662, 698, 699, 700, 701, 683, 684, 685, 693, 694, 705, 706, 707, 708, 686, 687, 688, 689] (by decide +kernel) (by decide +kernel)
set_option maxRecDepth 20000 in
theorem gL_law_X8_planRowSpacing : GoodIn wsL_law (wsV RL 102 RX8 yX8_planRowSpacing wsX8_planRowSpacing) := goodIn_app (goodIn_of _ (by decide +kernel)) ggL_law_X8_planRowSpacing
set_option maxRecDepth 20000 in
theorem ggL_law_X9_planRowSpacing : GoodIn wsL_law wsX9_planRowSpacing := goodIn_r _ [533, 511, 414, 415, 5, 416, 129, 130, 131, 506, 507, 508, 509, 510, 505, 106, 107, 512, 513, 514, 515, 516, 104, 357, 358, 359, 360, 98, 93, 221, 94, 95, 182, 183, 184, 361, 362, 363, 364, 365, 366, 367, 517, 518, 519, 520, 521, 522, 523, 524, 663, 664, 665, 666, 667, 668, 669, 670, 671, 672, 673, 674, 675, 676, 677, 678, 679, 680, 681, 682] (by decide +kernel) (by decide +kernel)
set_option maxRecDepth 20000 in
theorem gL_law_X9_planRowSpacing : GoodIn wsL_law (wsV RL 105 RX9 yX9_planRowSpacing wsX9_planRowSpacing) := goodIn_app (goodIn_of _ (by decide +kernel)) ggL_law_X9_planRowSpacing
set_option maxRecDepth 20000 in
theorem ggL_law_X8_planPhotoSpacing : GoodIn wsL_law wsX8_planPhotoSpacing := goodIn_r _ [537, 35, 15, 19, 538, 112, 113, 2, 114, 475, 476, 477, 34, 478, 479, 480, 82, 481, 482, 483, 484, 485, 486, 26, 487, 488, 68, 489, 174, 175, 490, 120, 121, 122, 123, 491, 239, 240, 241, 242, 243, 244, 70, 245, 246, 247, 248, 249, 492, 493, 494, 495, 395, 297, 298, 299, 496, 497, 498, 499, 500, 392, 393, 394, 271, 396, 318, 319, 320, 397, 339, 340, 18, 341, 52, 55, 342, 165, 166, 167, 53, 54, 343, 141, 142, 14, 143, 47, 344, 345, 346, 347, 348, 169, 170, 349, 350, 351, 352, 656, 657, 658, 659, 660, 661, 662, 698, 699, 700, 701, 683, 684, 685, 693, 694, 705, 706, 707, 708, 686, 687, 688, 689] (by decide +kernel) (by decide +kernel)
set_option maxRecDepth 20000 in
theorem gL_law_X8_planPhotoSpacing : GoodIn wsL_law (wsV RL 106 RX8 yX8_planPhotoSpacing wsX8_planPhotoSpacing) := goodIn_app (goodIn_of _ (by decide +kernel)) ggL_law_X8_planPhotoSpacing
set_option maxRecDepth 20000 in
theorem ggL_law_X9_planPhotoSpacing : GoodIn wsL_law wsX9_planPhotoSpacing := goodIn_r _ [542, 512, 414, 415, 5, 416, 129, 130, 131, 506, 507, 508, 509, 510, 505, 106, 107, 511, 513, 514, 515, 516, 104, 357, 358, 359, 360, 98, 93, 221, 94, 95, 182, 183, 184, 361, 362, 363, 364, 365, 366, 367, 517, 518, 519, 520, 521, 522, 523, 524, 663, 664, 665, 666, 667, 668, 669, 670, 671, 672, 673, 674, 675, 676, 677, 678, 679, 680, 681, 682] (by decide +kernel) (by decide +kernel)
set_option maxRecDepth 20000 in
theorem gL_law_X9_planPhotoSpacing : GoodIn wsL_law (wsV RL 109 RX9 yX9_planPhotoSpacing wsX9_planPhotoSpacing) := goodIn_app (goodIn_of _ (by decide +kernel)) ggL_law_X9_planPhotoSpacing
set_option maxRecDepth 20000 in
theorem ggL_law_X8_applyPlan : GoodIn wsL_law wsX8_applyPlan := goodIn_r _ [546, 35, 15, 19, 27, 529, 538, 262, 112, 113, 2, 114, 475, 476, 477, 34, 478, 479, 480, 82, 481, 482, 483, 484, 485, 486, 26, 487, 488, 68, 489, 174, 175, 490, 120, 121, 122, 123, 491, 239, 240, 241, 242, 243, 244, 70, 245, 246, 247, 248, 249, 492, 493, 494, 495, 395, 297, 298, 299, 496, 497, 498, 499, 500, 392, 393, 394, 271, 396, 318, 319, 320, 397, 339, 340, 18, 341, 52, 55, 342, 165, 166, 167, 53, 54, 343, 141, 142, 14, 143, 47, 344, 345, 346, 347, 348, 169, 170, 349, 350, 351, 352, 547, 656, 657, 658, 659, 660, 661, 662, 698, 699, 700, 701, 693, 694, 683, 684, 685, 705, 706, 707, 708, 686, 687, 688, 689] (by decide +kernel) (by decide +kernel)
set_option maxRecDepth 20000 in
theorem gL_law_X8_applyPlan : GoodIn wsL_law (wsV RL 110 RX8 yX8_applyPlan wsX8_applyPlan) := goodIn_app (goodIn_of _ (by decide +kernel)) ggL_law_X8_applyPlan
set_option maxRecDepth 20000 in
theorem ggL_law_X9_applyPlan : GoodIn wsL_law wsX9_applyPlan := goodIn_r _ [551, 128, 511, 106, 107, 512, 414, 415, 5, 416, 129, 130, 131, 506, 507, 508, 509, 510, 505, 513, 514, 515, 516, 104, 357, 358, 359, 360, 98, 93, 221, 94, 95, 182, 183, 184, 361, 362, 363, 364, 365, 366, 367, 517, 518, 519, 520, 521, 522, 523, 524, 254, 255, 256, 257, 99, 100, 101, 102, 663, 664, 665, 666, 667, 668, 669, 670, 671, 672, 673, 674, 675, 676, 677, 678, 679, 680, 681, 682] (by decide +kernel) (by decide +kernel)
set_option maxRecDepth 20000 in
theorem gL_law_X9_applyPlan : GoodIn wsL_law (wsV RL 113 RX9 yX9_applyPlan wsX9_applyPlan) := goodIn_app (goodIn_of _ (by decide +kernel)) ggL_law_X9_applyPlan
set_option maxRecDepth 20000 in
theorem ggL_law_X8_stripTime : GoodIn wsL_law wsX8_stripTime := goodIn_r _ [555, 27, 23, 263, 264, 265, 26, 266, 123, 68, 556, 557, 558, 22, 559, 60, 61, 560, 561, 174, 2, 175, 656, 657, 658, 659, 660, 661, 662, 693, 694, 690, 691, 692, 705, 706, 707, 708] (by decide +kernel) (by decide +kernel)
set_option maxRecDepth 20000 in
theorem gL_law_X8_stripTime : GoodIn wsL_law (wsV RL 114 RX8 yX8_stripTime wsX8_stripTime) := goodIn_app (goodIn_of _ (by decide +kernel)) ggL_law_X8_stripTime
set_option maxRecDepth 20000 in
theorem ggL_law_X9_stripTime : GoodIn wsL_law wsX9_stripTime := goodIn_r _ [565, 280, 281, 282, 5, 283, 128, 129, 130, 131, 566, 567, 568, 569, 96, 233, 101, 100, 663, 664, 665, 666, 667, 668, 669, 670, 671, 672, 673, 674, 675, 676, 677, 678, 679, 680, 681, 682] (by decide +kernel) (by decide +kernel)
set_option maxRecDepth 20000 in
theorem gL_law_X9_stripTime : GoodIn wsL_law (wsV RL 118 RX9 yX9_stripTime wsX9_stripTime) := goodIn_app (goodIn_of _ (by decide +kernel)) ggL_law_X9_stripTime
set_option maxRecDepth 20000 in
theorem ggL_law_X8_routeTime : GoodIn wsL_law wsX8_routeTime := goodIn_r _ [573, 15, 39, 27, 23, 136, 137, 138, 14, 139, 44, 45, 574, 575, 576, 38, 577, 578, 579, 580, 581, 582, 583, 584, 88, 585, 264, 265, 26, 266, 123, 68, 586, 587, 588, 589, 590, 591, 592, 593, 594, 70, 595, 248, 247, 596, 597, 598, 599, 600, 601, 602, 603, 22, 604, 605, 606, 165, 166, 167, 60, 62, 607, 608, 609, 610, 174, 2, 175, 611, 557, 558, 559, 61, 560, 561, 656, 657, 658, 659, 660, 661, 662, 683, 684, 685, 693, 694, 702, 703, 704, 705, 706, 707, 708, 690, 691, 692] (by decide +kernel) (by decide +kernel)
set_option maxRecDepth 20000 in
theorem gL_law_X8_routeTime : GoodIn wsL_law (wsV RL 119 RX8 yX8_routeTime wsX8_routeTime) := goodIn_app (goodIn_of _ (by decide +kernel)) ggL_law_X8_routeTime
set_option maxRecDepth 20000 in
theorem ggL_law_X9_routeTime : GoodIn wsL_law wsX9_routeTime := goodIn_r _ [615, 128, 152, 153, 154, 5, 155, 106, 107, 129, 130, 131, 616, 617, 618, 619, 105, 99, 620, 621, 622, 623, 101, 100, 624, 625, 626, 627, 510, 628, 629, 630, 631, 632, 633, 634, 635, 96, 97, 182, 183, 184, 636, 637, 638, 639, 566, 567, 568, 569, 233, 663, 664, 665, 666, 667, 668, 669, 670, 671, 672, 673, 674, 675, 676, 677, 678, 679, 680, 681, 682] (by decide +kernel) (by decide +kernel)
set_option maxRecDepth 20000 in
theorem gL_law_X9_routeTime : GoodIn wsL_law (wsV RL 122 RX9 yX9_routeTime wsX9_routeTime) := goodIn_app (goodIn_of _ (by decide +kernel)) ggL_law_X9_routeTime
set_option maxRecDepth 20000 in
theorem ggL_law_X8_routeStep : GoodIn wsL_law wsX8_routeStep := goodIn_r _ [643, 15, 27, 262, 39, 23, 136, 137, 138, 14, 139, 44, 45, 644, 645, 646, 38, 647, 578, 600, 584, 580, 581, 582, 583, 88, 579, 585, 264, 265, 26, 266, 123, 68, 586, 587, 588, 589, 590, 591, 592, 593, 594, 70, 595, 248, 247, 596, 597, 598, 599, 601, 602, 603, 22, 604, 605, 606, 165, 166, 167, 60, 62, 607, 608, 609, 610, 174, 2, 175, 611, 557, 558, 559, 61, 560, 561, 656, 657, 658, 659, 660, 661, 662, 693, 694, 683, 684, 685, 702, 703, 704, 705, 706, 707, 708, 690, 691, 692] (by decide +kernel) (by decide +kernel)
set_option maxRecDepth 20000 in
theorem gL_law_X8_routeStep : GoodIn wsL_law (wsV RL 123 RX8 yX8_routeStep wsX8_routeStep) := goodIn_app (goodIn_of _ (by decide +kernel)) ggL_law_X8_routeStep
set_option maxRecDepth 20000 in
theorem ggL_law_X9_routeStep : GoodIn wsL_law wsX9_routeStep := goodIn_r _ [651, 128, 99, 152, 153, 154, 5, 155, 106, 107, 129, 130, 131, 616, 617, 618, 619, 105, 620, 621, 622, 623, 101, 100, 624, 625, 626, 627, 510, 628, 629, 630, 631, 632, 633, 634, 635, 96, 97, 182, 183, 184, 636, 637, 638, 639, 566, 567, 568, 569, 233, 652, 653, 654, 655, 663, 664, 665, 666, 667, 668, 669, 670, 671, 672, 673, 674, 675, 676, 677, 678, 679, 680, 681, 682] (by decide +kernel) (by decide +kernel)
set_option maxRecDepth 20000 in
theorem gL_law_X9_routeStep : GoodIn wsL_law (wsV RL 126 RX9 yX9_routeStep wsX9_routeStep) := goodIn_app (goodIn_of _ (by decide +kernel)) ggL_law_X9_routeStep
