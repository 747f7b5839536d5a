set_option maxRecDepth 20000 in
theorem ggL_law_X8_init : GoodIn wsL_law wsX8_init := goodIn_r _ [8, 9, 10, 11, 12, 13, 14, 15, 16, 17, 18, 19, 20, 21, 22, 23, 24, 25, 26, 27, 28, 29, 30, 31, 32, 33, 34, 35, 36, 37, 38, 39, 40, 41, 42, 43, 44, 45, 46, 47, 48, 49, 50, 51, 52, 53, 54, 55, 56, 57, 58, 59, 60, 61, 62, 63, 64, 65, 66, 67, 68, 69, 70, 71, 72, 73, 74, 75, 76, 77, 78, 79, 80, 81, 82, 83, 84, 85, 86, 87, 88, 694, 695, 696, 667, 668, 669, 670, 671, 672, 673, 697, 698, 699, 700, 701, 702, 703, 704, 705, 706, 707, 708, 709, 710, 711, 712, 713, 714, 715, 716, 717, 718, 719] (by decide +kernel) (by decide +kernel)
set_option maxRecDepth 20000 in
theorem gL_law_X8_init : GoodIn wsL_law (wsX8_init) := ggL_law_X8_init
set_option maxRecDepth 20000 in
theorem ggL_law_X9_init : GoodIn wsL_law wsX9_init := goodIn_r _ [91, 92, 10, 11, 93, 94, 95, 96, 97, 46, 98, 99, 100, 101, 102, 103, 104, 105, 106, 107, 674, 675, 676, 677, 678, 679, 680, 681, 682, 683, 684, 685, 686, 687, 688, 689, 690, 691, 692, 693] (by decide +kernel) (by decide +kernel)
set_option maxRecDepth 20000 in
theorem gL_law_X9_init : GoodIn wsL_law (wsX9_init) := ggL_law_X9_init
set_option maxRecDepth 20000 in
theorem ggL_law_X8_resize : GoodIn wsL_law wsX8_resize := goodIn_r _ [111, 15, 27, 112, 113, 2, 114, 115, 116, 117, 14, 118, 44, 45, 47, 119, 120, 121, 26, 122, 123, 667, 668, 669, 670, 671, 672, 673, 694, 695, 696, 704, 705] (by decide +kernel) (by decide +kernel)
set_option maxRecDepth 20000 in
theorem gL_law_X8_resize : GoodIn wsL_law (wsV RL 13 RX8 yX8_resize wsX8_resize) := goodIn_app (goodIn_of _ (by decide +kernel)) ggL_law_X8_resize
set_option maxRecDepth 20000 in
theorem ggL_law_X9_resize : GoodIn wsL_law wsX9_resize := goodIn_r _ [127, 106, 107, 128, 98, 129, 130, 5, 131, 674, 675, 676, 677, 678, 679, 680, 681, 682, 683, 684, 685, 686, 687, 688, 689, 690, 691, 692, 693] (by decide +kernel) (by decide +kernel)
set_option maxRecDepth 20000 in
theorem gL_law_X9_resize : GoodIn wsL_law (wsV RL 17 RX9 yX9_resize wsX9_resize) := goodIn_app (goodIn_of _ (by decide +kernel)) ggL_law_X9_resize
set_option maxRecDepth 20000 in
theorem ggL_law_X8_setHeight : GoodIn wsL_law wsX8_setHeight := goodIn_r _ [135, 15, 136, 137, 138, 14, 139, 44, 45, 112, 113, 2, 114, 140, 141, 142, 143, 47, 144, 145, 146, 147, 667, 668, 669, 670, 671, 672, 673, 694, 695, 696] (by decide +kernel) (by decide +kernel)
set_option maxRecDepth 20000 in
theorem gL_law_X8_setHeight : GoodIn wsL_law (wsV RL 18 RX8 yX8_setHeight wsX8_setHeight) := goodIn_app (goodIn_of _ (by decide +kernel)) ggL_law_X8_setHeight
set_option maxRecDepth 20000 in
theorem ggL_law_X9_setHeight : GoodIn wsL_law wsX9_setHeight := goodIn_r _ [151, 98, 152, 153, 154, 5, 155, 106, 107, 129, 130, 131, 674, 675, 676, 677, 678, 679, 680, 681, 682, 683, 684, 685, 686, 687, 688, 689, 690, 691, 692, 693] (by decide +kernel) (by decide +kernel)
set_option maxRecDepth 20000 in
theorem gL_law_X9_setHeight : GoodIn wsL_law (wsV RL 22 RX9 yX9_setHeight wsX9_setHeight) := goodIn_app (goodIn_of _ (by decide +kernel)) ggL_law_X9_setHeight
set_option maxRecDepth 20000 in
theorem ggL_law_X8_raiseHill : GoodIn wsL_law wsX8_raiseHill := goodIn_r _ [159, 15, 136, 137, 138, 14, 139, 44, 45, 112, 113, 2, 114, 160, 161, 162, 163, 164, 165, 166, 167, 168, 169, 170, 171, 172, 173, 174, 175, 176, 141, 142, 143, 47, 177, 145, 146, 147, 667, 668, 669, 670, 671, 672, 673, 694, 695, 696] (by decide +kernel) (by decide +kernel)
set_option maxRecDepth 20000 in
theorem gL_law_X8_raiseHill : GoodIn wsL_law (wsV RL 23 RX8 yX8_raiseHill wsX8_raiseHill) := goodIn_app (goodIn_of _ (by decide +kernel)) ggL_law_X8_raiseHill
set_option maxRecDepth 20000 in
theorem ggL_law_X9_raiseHill : GoodIn wsL_law wsX9_raiseHill := goodIn_r _ [181, 106, 107, 98, 152, 153, 154, 5, 155, 129, 130, 131, 182, 183, 184, 674, 675, 676, 677, 678, 679, 680, 681, 682, 683, 684, 685, 686, 687, 688, 689, 690, 691, 692, 693] (by decide +kernel) (by decide +kernel)
set_option maxRecDepth 20000 in
theorem gL_law_X9_raiseHill : GoodIn wsL_law (wsV RL 27 RX9 yX9_raiseHill wsX9_raiseHill) := goodIn_app (goodIn_of _ (by decide +kernel)) ggL_law_X9_raiseHill
set_option maxRecDepth 20000 in
theorem ggL_law_X8_height : GoodIn wsL_law wsX8_height := goodIn_r _ [188, 15, 136, 137, 138, 14, 139, 44, 45, 140, 141, 142, 143, 47, 667, 668, 669, 670, 671, 672, 673, 694, 695, 696] (by decide +kernel) (by decide +kernel)
set_option maxRecDepth 20000 in
theorem gL_law_X8_height : GoodIn wsL_law (wsV RL 28 RX8 yX8_height wsX8_height) := goodIn_app (goodIn_of _ (by decide +kernel)) ggL_law_X8_height
set_option maxRecDepth 20000 in
theorem ggL_law_X9_height : GoodIn wsL_law wsX9_height := goodIn_r _ [192, 98, 152, 153, 154, 5, 155, 106, 107, 129, 130, 131, 674, 675, 676, 677, 678, 679, 680, 681, 682, 683, 684, 685, 686, 687, 688, 689, 690, 691, 692, 693] (by decide +kernel) (by decide +kernel)
set_option maxRecDepth 20000 in
theorem gL_law_X9_height : GoodIn wsL_law (wsV RL 31 RX9 yX9_height wsX9_height) := goodIn_app (goodIn_of _ (by decide +kernel)) ggL_law_X9_height
set_option maxRecDepth 20000 in
theorem ggL_law_X8_setAltitude : GoodIn wsL_law wsX8_setAltitude := goodIn_r _ [196, 19, 197, 112, 113, 2, 114, 667, 668, 669, 670, 671, 672, 673, 697, 698, 699, 700] (by decide +kernel) (by decide +kernel)
set_option maxRecDepth 20000 in
theorem gL_law_X8_setAltitude : GoodIn wsL_law (wsV RL 32 RX8 yX8_setAltitude wsX8_setAltitude) := goodIn_app (goodIn_of _ (by decide +kernel)) ggL_law_X8_setAltitude
set_option maxRecDepth 20000 in
theorem ggL_law_X9_setAltitude : GoodIn wsL_law wsX9_setAltitude := goodIn_r _ [201, 93, 129, 130, 5, 131, 674, 675, 676, 677, 678, 679, 680, 681, 682, 683, 684, 685, 686, 687, 688, 689, 690, 691, 692, 693] (by decide +kernel) (by decide +kernel)
set_option maxRecDepth 20000 in
theorem gL_law_X9_setAltitude : GoodIn wsL_law (wsV RL 36 RX9 yX9_setAltitude wsX9_setAltitude) := goodIn_app (goodIn_of _ (by decide +kernel)) ggL_law_X9_setAltitude
set_option maxRecDepth 20000 in
theorem ggL_law_X8_setFields : GoodIn wsL_law wsX8_setFields := goodIn_r _ [205, 19, 206, 207, 112, 113, 2, 114, 667, 668, 669, 670, 671, 672, 673, 697, 698, 699, 700] (by decide +kernel) (by decide +kernel)
set_option maxRecDepth 20000 in
theorem gL_law_X8_setFields : GoodIn wsL_law (wsV RL 37 RX8 yX8_setFields wsX8_setFields) := goodIn_app (goodIn_of _ (by decide +kernel)) ggL_law_X8_setFields
set_option maxRecDepth 20000 in
theorem ggL_law_X9_setFields : GoodIn wsL_law wsX9_setFields := goodIn_r _ [211, 94, 95, 129, 130, 5, 131, 674, 675, 676, 677, 678, 679, 680, 681, 682, 683, 684, 685, 686, 687, 688, 689, 690, 691, 692, 693] (by decide +kernel) (by decide +kernel)
set_option maxRecDepth 20000 in
theorem gL_law_X9_setFields : GoodIn wsL_law (wsV RL 40 RX9 yX9_setFields wsX9_setFields) := goodIn_app (goodIn_of _ (by decide +kernel)) ggL_law_X9_setFields
set_option maxRecDepth 20000 in
theorem ggL_law_X8_setCrab : GoodIn wsL_law wsX8_setCrab := goodIn_r _ [215, 19, 216, 112, 113, 2, 114, 667, 668, 669, 670, 671, 672, 673, 697, 698, 699, 700] (by decide +kernel) (by decide +kernel)
set_option maxRecDepth 20000 in
theorem gL_law_X8_setCrab : GoodIn wsL_law (wsV RL 41 RX8 yX8_setCrab wsX8_setCrab) := goodIn_app (goodIn_of _ (by decide +kernel)) ggL_law_X8_setCrab
set_option maxRecDepth 20000 in
theorem ggL_law_X9_setCrab : GoodIn wsL_law wsX9_setCrab := goodIn_r _ [220, 221, 129, 130, 5, 131, 674, 675, 676, 677, 678, 679, 680, 681, 682, 683, 684, 685, 686, 687, 688, 689, 690, 691, 692, 693] (by decide +kernel) (by decide +kernel)
set_option maxRecDepth 20000 in
theorem gL_law_X9_setCrab : GoodIn wsL_law (wsV RL 44 RX9 yX9_setCrab wsX9_setCrab) := goodIn_app (goodIn_of _ (by decide +kernel)) ggL_law_X9_setCrab
set_option maxRecDepth 20000 in
theorem ggL_law_X8_setSpeed : GoodIn wsL_law wsX8_setSpeed := goodIn_r _ [225, 23, 226, 227, 228, 112, 113, 2, 114, 667, 668, 669, 670, 671, 672, 673, 701, 702, 703] (by decide +kernel) (by decide +kernel)
set_option maxRecDepth 20000 in
theorem gL_law_X8_setSpeed : GoodIn wsL_law (wsV RL 45 RX8 yX8_setSpeed wsX8_setSpeed) := goodIn_app (goodIn_of _ (by decide +kernel)) ggL_law_X8_setSpeed
set_option maxRecDepth 20000 in
theorem ggL_law_X9_setSpeed : GoodIn wsL_law wsX9_setSpeed := goodIn_r _ [232, 96, 233, 97, 129, 130, 5, 131, 674, 675, 676, 677, 678, 679, 680, 681, 682, 683, 684, 685, 686, 687, 688, 689, 690, 691, 692, 693] (by decide +kernel) (by decide +kernel)
set_option maxRecDepth 20000 in
theorem gL_law_X9_setSpeed : GoodIn wsL_law (wsV RL 48 RX9 yX9_setSpeed wsX9_setSpeed) := goodIn_app (goodIn_of _ (by decide +kernel)) ggL_law_X9_setSpeed
set_option maxRecDepth 20000 in
theorem ggL_law_X8_addStrip : GoodIn wsL_law wsX8_addStrip := goodIn_r _ [237, 15, 27, 136, 137, 138, 14, 139, 44, 45, 112, 113, 2, 114, 238, 239, 240, 26, 241, 123, 242, 243, 244, 245, 68, 246, 247, 248, 70, 249, 250, 251, 252, 253, 667, 668, 669, 670, 671, 672, 673, 694, 695, 696, 704, 705, 716, 717, 718, 719] (by decide +kernel) (by decide +kernel)
set_option maxRecDepth 20000 in
theorem gL_law_X8_addStrip : GoodIn wsL_law (wsV RL 49 RX8 yX8_addStrip wsX8_addStrip) := goodIn_app (goodIn_of _ (by decide +kernel)) ggL_law_X8_addStrip
set_option maxRecDepth 20000 in
theorem ggL_law_X9_addStrip : GoodIn wsL_law wsX9_addStrip := goodIn_r _ [257, 128, 152, 153, 154, 5, 155, 106, 107, 129, 130, 131, 258, 259, 260, 261, 99, 100, 101, 102, 674, 675, 676, 677, 678, 679, 680, 681, 682, 683, 684, 685, 686, 687, 688, 689, 690, 691, 692, 693] (by decide +kernel) (by decide +kernel)
set_option maxRecDepth 20000 in
theorem gL_law_X9_addStrip : GoodIn wsL_law (wsV RL 52 RX9 yX9_addStrip wsX9_addStrip) := goodIn_app (goodIn_of _ (by decide +kernel)) ggL_law_X9_addStrip
set_option maxRecDepth 20000 in
theorem ggL_law_X8_removeStrip : GoodIn wsL_law wsX8_removeStrip := goodIn_r _ [265, 27, 266, 267, 268, 269, 26, 270, 123, 242, 243, 244, 245, 68, 271, 272, 273, 274, 275, 276, 277, 278, 279, 246, 247, 248, 70, 249, 250, 251, 252, 253, 667, 668, 669, 670, 671, 672, 673, 704, 705, 716, 717, 718, 719] (by decide +kernel) (by decide +kernel)
set_option maxRecDepth 20000 in
theorem gL_law_X8_removeStrip : GoodIn wsL_law (wsV RL 53 RX8 yX8_removeStrip wsX8_removeStrip) := goodIn_app (goodIn_of _ (by decide +kernel)) ggL_law_X8_removeStrip
set_option maxRecDepth 20000 in
theorem ggL_law_X9_removeStrip : GoodIn wsL_law wsX9_removeStrip := goodIn_r _ [283, 128, 99, 100, 101, 102, 284, 285, 286, 5, 287, 129, 130, 131, 674, 675, 676, 677, 678, 679, 680, 681, 682, 683, 684, 685, 686, 687, 688, 689, 690, 691, 692, 693] (by decide +kernel) (by decide +kernel)
set_option maxRecDepth 20000 in
theorem gL_law_X9_removeStrip : GoodIn wsL_law (wsV RL 56 RX9 yX9_removeStrip wsX9_removeStrip) := goodIn_app (goodIn_of _ (by decide +kernel)) ggL_law_X9_removeStrip
set_option maxRecDepth 20000 in
theorem ggL_law_X8_stripCount : GoodIn wsL_law wsX8_stripCount := goodIn_r _ [291, 27, 266, 667, 668, 669, 670, 671, 672, 673, 704, 705] (by decide +kernel) (by decide +kernel)
set_option maxRecDepth 20000 in
theorem gL_law_X8_stripCount : GoodIn wsL_law (wsV RL 57 RX8 yX8_stripCount wsX8_stripCount) := goodIn_app (goodIn_of _ (by decide +kernel)) ggL_law_X8_stripCount
set_option maxRecDepth 20000 in
theorem ggL_law_X9_stripCount : GoodIn wsL_law wsX9_stripCount := goodIn_r _ [295, 128, 674, 675, 676, 677, 678, 679, 680, 681, 682, 683, 684, 685, 686, 687, 688, 689, 690, 691, 692, 693] (by decide +kernel) (by decide +kernel)
set_option maxRecDepth 20000 in
theorem gL_law_X9_stripCount : GoodIn wsL_law (wsV RL 61 RX9 yX9_stripCount wsX9_stripCount) := goodIn_app (goodIn_of _ (by decide +kernel)) ggL_law_X9_stripCount
set_option maxRecDepth 20000 in
theorem ggL_law_X8_photoCount : GoodIn wsL_law wsX8_photoCount := goodIn_r _ [299, 27, 267, 268, 269, 26, 270, 123, 242, 243, 244, 245, 68, 300, 301, 302, 70, 303, 252, 251, 253, 174, 2, 175, 667, 668, 669, 670, 671, 672, 673, 704, 705, 716, 717, 718, 719] (by decide +kernel) (by decide +kernel)
set_option maxRecDepth 20000 in
theorem gL_law_X8_photoCount : GoodIn wsL_law (wsV RL 62 RX8 yX8_photoCount wsX8_photoCount) := goodIn_app (goodIn_of _ (by decide +kernel)) ggL_law_X8_photoCount
set_option maxRecDepth 20000 in
theorem ggL_law_X9_photoCount : GoodIn wsL_law wsX9_photoCount := goodIn_r _ [307, 284, 285, 286, 5, 287, 128, 129, 130, 131, 308, 309, 310, 311, 101, 100, 102, 674, 675, 676, 677, 678, 679, 680, 681, 682, 683, 684, 685, 686, 687, 688, 689, 690, 691, 692, 693] (by decide +kernel) (by decide +kernel)
set_option maxRecDepth 20000 in
theorem gL_law_X9_photoCount : GoodIn wsL_law (wsV RL 65 RX9 yX9_photoCount wsX9_photoCount) := goodIn_app (goodIn_of _ (by decide +kernel)) ggL_law_X9_photoCount
set_option maxRecDepth 20000 in
theorem ggL_law_X8_photoColumn : GoodIn wsL_law wsX8_photoColumn := goodIn_r _ [315, 27, 267, 268, 269, 26, 270, 123, 242, 243, 244, 245, 68, 316, 317, 318, 70, 319, 320, 301, 302, 303, 252, 251, 253, 174, 2, 175, 321, 322, 323, 324, 667, 668, 669, 670, 671, 672, 673, 704, 705, 716, 717, 718, 719] (by decide +kernel) (by decide +kernel)
set_option maxRecDepth 20000 in
theorem gL_law_X8_photoColumn : GoodIn wsL_law (wsV RL 66 RX8 yX8_photoColumn wsX8_photoColumn) := goodIn_app (goodIn_of _ (by decide +kernel)) ggL_law_X8_photoColumn
set_option maxRecDepth 20000 in
theorem ggL_law_X9_photoColumn : GoodIn wsL_law wsX9_photoColumn := goodIn_r _ [328, 329, 330, 331, 5, 332, 284, 285, 286, 287, 128, 129, 130, 131, 308, 309, 310, 311, 101, 100, 102, 333, 334, 335, 336, 674, 675, 676, 677, 678, 679, 680, 681, 682, 683, 684, 685, 686, 687, 688, 689, 690, 691, 692, 693] (by decide +kernel) (by decide +kernel)
set_option maxRecDepth 20000 in
theorem gL_law_X9_photoColumn : GoodIn wsL_law (wsV RL 69 RX9 yX9_photoColumn wsX9_photoColumn) := goodIn_app (goodIn_of _ (by decide +kernel)) ggL_law_X9_photoColumn
set_option maxRecDepth 20000 in
theorem ggL_law_X8_seesCell : GoodIn wsL_law wsX8_seesCell := goodIn_r _ [340, 27, 15, 19, 341, 267, 268, 269, 26, 270, 123, 242, 243, 244, 245, 68, 316, 317, 318, 70, 319, 320, 301, 302, 303, 252, 251, 253, 174, 2, 175, 136, 137, 138, 14, 139, 44, 45, 321, 322, 323, 324, 342, 343, 344, 18, 345, 52, 55, 346, 165, 166, 167, 53, 54, 347, 141, 142, 143, 47, 348, 349, 350, 351, 352, 169, 170, 353, 354, 355, 356, 667, 668, 669, 670, 671, 672, 673, 716, 717, 718, 719, 704, 705, 694, 695, 696, 697, 698, 699, 700] (by decide +kernel) (by decide +kernel)
set_option maxRecDepth 20000 in
theorem gL_law_X8_seesCell : GoodIn wsL_law (wsV RL 70 RX8 yX8_seesCell wsX8_seesCell) := goodIn_app (goodIn_of _ (by decide +kernel)) ggL_law_X8_seesCell
set_option maxRecDepth 20000 in
theorem ggL_law_X9_seesCell : GoodIn wsL_law wsX9_seesCell := goodIn_r _ [360, 99, 329, 330, 331, 5, 332, 284, 285, 286, 287, 128, 129, 130, 131, 308, 309, 310, 311, 101, 100, 102, 152, 153, 154, 155, 106, 107, 333, 334, 335, 336, 361, 362, 363, 364, 98, 93, 221, 94, 95, 182, 183, 184, 365, 366, 367, 368, 369, 370, 371, 674, 675, 676, 677, 678, 679, 680, 681, 682, 683, 684, 685, 686, 687, 688, 689, 690, 691, 692, 693] (by decide +kernel) (by decide +kernel)
set_option maxRecDepth 20000 in
theorem gL_law_X9_seesCell : GoodIn wsL_law (wsV RL 73 RX9 yX9_seesCell wsX9_seesCell) := goodIn_app (goodIn_of _ (by decide +kernel)) ggL_law_X9_seesCell
set_option maxRecDepth 20000 in
theorem ggL_law_X8_footprintSize : GoodIn wsL_law wsX8_footprintSize := goodIn_r _ [375, 27, 15, 376, 377, 19, 341, 267, 268, 269, 26, 270, 123, 242, 243, 244, 245, 68, 316, 317, 318, 70, 319, 320, 301, 302, 303, 252, 251, 253, 174, 2, 175, 321, 322, 323, 324, 342, 343, 344, 18, 345, 52, 55, 346, 165, 166, 167, 53, 54, 347, 141, 142, 14, 143, 47, 348, 349, 350, 351, 352, 169, 170, 353, 354, 355, 356, 667, 668, 669, 670, 671, 672, 673, 694, 695, 696, 716, 717, 718, 719, 704, 705, 697, 698, 699, 700] (by decide +kernel) (by decide +kernel)
set_option maxRecDepth 20000 in
theorem gL_law_X8_footprintSize : GoodIn wsL_law (wsV RL 74 RX8 yX8_footprintSize wsX8_footprintSize) := goodIn_app (goodIn_of _ (by decide +kernel)) ggL_law_X8_footprintSize
set_option maxRecDepth 20000 in
theorem ggL_law_X9_footprintSize : GoodIn wsL_law wsX9_footprintSize := goodIn_r _ [381, 329, 330, 331, 5, 332, 284, 285, 286, 287, 128, 129, 130, 131, 308, 309, 310, 311, 101, 100, 102, 382, 383, 384, 385, 106, 107, 386, 387, 388, 389, 99, 333, 334, 335, 336, 361, 362, 363, 364, 98, 93, 221, 94, 95, 182, 183, 184, 365, 366, 367, 368, 369, 370, 371, 674, 675, 676, 677, 678, 679, 680, 681, 682, 683, 684, 685, 686, 687, 688, 689, 690, 691, 692, 693] (by decide +kernel) (by decide +kernel)
set_option maxRecDepth 20000 in
theorem gL_law_X9_footprintSize : GoodIn wsL_law (wsV RL 77 RX9 yX9_footprintSize wsX9_footprintSize) := goodIn_app (goodIn_of _ (by decide +kernel)) ggL_law_X9_footprintSize
set_option maxRecDepth 20000 in
theorem ggL_law_X8_coverage : GoodIn wsL_law wsX8_coverage := goodIn_r _ [393, 15, 27, 19, 136, 137, 138, 14, 139, 44, 45, 394, 395, 396, 26, 397, 123, 275, 279, 268, 269, 270, 242, 243, 244, 245, 68, 398, 301, 302, 70, 303, 252, 251, 253, 174, 2, 175, 399, 322, 323, 324, 400, 343, 344, 18, 345, 52, 55, 346, 165, 166, 167, 53, 54, 347, 141, 142, 143, 47, 348, 349, 350, 351, 352, 169, 170, 353, 354, 355, 356, 667, 668, 669, 670, 671, 672, 673, 694, 695, 696, 704, 705, 716, 717, 718, 719, 697, 698, 699, 700] (by decide +kernel) (by decide +kernel)
set_option maxRecDepth 20000 in
theorem gL_law_X8_coverage : GoodIn wsL_law (wsV RL 78 RX8 yX8_coverage wsX8_coverage) := goodIn_app (goodIn_of _ (by decide +kernel)) ggL_law_X8_coverage
set_option maxRecDepth 20000 in
theorem ggL_law_X9_coverage : GoodIn wsL_law wsX9_coverage := goodIn_r _ [404, 107, 152, 153, 154, 5, 155, 106, 129, 130, 131, 405, 406, 407, 408, 128, 308, 309, 310, 311, 101, 100, 102, 386, 387, 388, 389, 99, 333, 334, 335, 336, 361, 362, 363, 364, 98, 93, 221, 94, 95, 182, 183, 184, 365, 366, 367, 368, 369, 370, 371, 674, 675, 676, 677, 678, 679, 680, 681, 682, 683, 684, 685, 686, 687, 688, 689, 690, 691, 692, 693] (by decide +kernel) (by decide +kernel)
set_option maxRecDepth 20000 in
theorem gL_law_X9_coverage : GoodIn wsL_law (wsV RL 81 RX9 yX9_coverage wsX9_coverage) := goodIn_app (goodIn_of _ (by decide +kernel)) ggL_law_X9_coverage
set_option maxRecDepth 20000 in
theorem ggL_law_X8_gapCount : GoodIn wsL_law wsX8_gapCount := goodIn_r _ [412, 15, 376, 377, 27, 19, 112, 113, 2, 114, 394, 395, 396, 26, 397, 123, 275, 279, 268, 269, 270, 242, 243, 244, 245, 68, 398, 301, 302, 70, 303, 252, 251, 253, 174, 175, 399, 322, 323, 324, 400, 343, 344, 18, 345, 52, 55, 346, 165, 166, 167, 53, 54, 347, 141, 142, 14, 143, 47, 348, 349, 350, 351, 352, 169, 170, 353, 354, 355, 356, 667, 668, 669, 670, 671, 672, 673, 694, 695, 696, 704, 705, 716, 717, 718, 719, 697, 698, 699, 700] (by decide +kernel) (by decide +kernel)
set_option maxRecDepth 20000 in
theorem gL_law_X8_gapCount : GoodIn wsL_law (wsV RL 82 RX8 yX8_gapCount wsX8_gapCount) := goodIn_app (goodIn_of _ (by decide +kernel)) ggL_law_X8_gapCount
set_option maxRecDepth 20000 in
theorem ggL_law_X9_gapCount : GoodIn wsL_law wsX9_gapCount := goodIn_r _ [416, 106, 107, 417, 418, 5, 419, 129, 130, 131, 405, 406, 407, 408, 128, 308, 309, 310, 311, 101, 100, 102, 386, 387, 388, 389, 99, 333, 334, 335, 336, 361, 362, 363, 364, 98, 93, 221, 94, 95, 182, 183, 184, 365, 366, 367, 368, 369, 370, 371, 674, 675, 676, 677, 678, 679, 680, 681, 682, 683, 684, 685, 686, 687, 688, 689, 690, 691, 692, 693] (by decide +kernel) (by decide +kernel)
set_option maxRecDepth 20000 in
theorem gL_law_X9_gapCount : GoodIn wsL_law (wsV RL 85 RX9 yX9_gapCount wsX9_gapCount) := goodIn_app (goodIn_of _ (by decide +kernel)) ggL_law_X9_gapCount
set_option maxRecDepth 20000 in
theorem ggL_law_X8_gapAt : GoodIn wsL_law wsX8_gapAt := goodIn_r _ [423, 15, 376, 377, 27, 19, 112, 113, 2, 114, 394, 395, 396, 26, 397, 123, 275, 279, 268, 269, 270, 242, 243, 244, 245, 68, 398, 301, 302, 70, 303, 252, 251, 253, 174, 175, 399, 322, 323, 324, 400, 343, 344, 18, 345, 52, 55, 346, 165, 166, 167, 53, 54, 347, 141, 142, 14, 143, 47, 348, 349, 350, 351, 352, 169, 170, 353, 354, 355, 356, 667, 668, 669, 670, 671, 672, 673, 694, 695, 696, 704, 705, 716, 717, 718, 719, 697, 698, 699, 700] (by decide +kernel) (by decide +kernel)
set_option maxRecDepth 20000 in
theorem gL_law_X8_gapAt : GoodIn wsL_law (wsV RL 86 RX8 yX8_gapAt wsX8_gapAt) := goodIn_app (goodIn_of _ (by decide +kernel)) ggL_law_X8_gapAt
set_option maxRecDepth 20000 in
theorem ggL_law_X9_gapAt : GoodIn wsL_law wsX9_gapAt := goodIn_r _ [427, 106, 107, 417, 418, 5, 419, 129, 130, 131, 405, 406, 407, 408, 128, 308, 309, 310, 311, 101, 100, 102, 386, 387, 388, 389, 99, 333, 334, 335, 336, 361, 362, 363, 364, 98, 93, 221, 94, 95, 182, 183, 184, 365, 366, 367, 368, 369, 370, 371, 674, 675, 676, 677, 678, 679, 680, 681, 682, 683, 684, 685, 686, 687, 688, 689, 690, 691, 692, 693] (by decide +kernel) (by decide +kernel)
set_option maxRecDepth 20000 in
theorem gL_law_X9_gapAt : GoodIn wsL_law (wsV RL 89 RX9 yX9_gapAt wsX9_gapAt) := goodIn_app (goodIn_of _ (by decide +kernel)) ggL_law_X9_gapAt
set_option maxRecDepth 20000 in
theorem ggL_law_X8_forwardOverlap : GoodIn wsL_law wsX8_forwardOverlap := goodIn_r _ [431, 27, 31, 15, 376, 377, 19, 341, 267, 268, 269, 26, 270, 123, 242, 243, 244, 245, 68, 316, 317, 318, 70, 319, 320, 301, 302, 303, 252, 251, 253, 174, 2, 175, 321, 322, 323, 324, 432, 433, 434, 30, 435, 436, 437, 438, 342, 343, 344, 18, 345, 52, 55, 346, 165, 166, 167, 53, 54, 347, 141, 142, 14, 143, 47, 348, 349, 350, 351, 352, 169, 170, 353, 354, 355, 356, 439, 440, 441, 442, 443, 444, 445, 446, 447, 172, 173, 667, 668, 669, 670, 671, 672, 673, 694, 695, 696, 716, 717, 718, 719, 704, 705, 706, 707, 708, 697, 698, 699, 700] (by decide +kernel) (by decide +kernel)
set_option maxRecDepth 20000 in
theorem gL_law_X8_forwardOverlap : GoodIn wsL_law (wsV RL 90 RX8 yX8_forwardOverlap wsX8_forwardOverlap) := goodIn_app (goodIn_of _ (by decide +kernel)) ggL_law_X8_forwardOverlap
set_option maxRecDepth 20000 in
theorem ggL_law_X9_forwardOverlap : GoodIn wsL_law wsX9_forwardOverlap := goodIn_r _ [451, 106, 107, 329, 330, 331, 5, 332, 284, 285, 286, 287, 128, 129, 130, 131, 308, 309, 310, 311, 101, 100, 102, 386, 387, 388, 389, 99, 333, 334, 335, 336, 361, 362, 363, 364, 98, 93, 221, 94, 95, 182, 183, 184, 365, 366, 367, 368, 369, 370, 371, 382, 383, 384, 385, 452, 453, 454, 674, 675, 676, 677, 678, 679, 680, 681, 682, 683, 684, 685, 686, 687, 688, 689, 690, 691, 692, 693] (by decide +kernel) (by decide +kernel)
set_option maxRecDepth 20000 in
theorem gL_law_X9_forwardOverlap : GoodIn wsL_law (wsV RL 93 RX9 yX9_forwardOverlap wsX9_forwardOverlap) := goodIn_app (goodIn_of _ (by decide +kernel)) ggL_law_X9_forwardOverlap
set_option maxRecDepth 20000 in
theorem ggL_law_X8_sideOverlap : GoodIn wsL_law wsX8_sideOverlap := goodIn_r _ [458, 27, 31, 15, 376, 377, 19, 267, 268, 269, 26, 270, 123, 242, 243, 244, 245, 68, 432, 433, 434, 30, 435, 436, 437, 438, 459, 460, 461, 70, 462, 250, 320, 301, 302, 303, 252, 251, 253, 174, 2, 175, 463, 322, 323, 324, 464, 343, 344, 18, 345, 52, 55, 346, 165, 166, 167, 53, 54, 347, 141, 142, 14, 143, 47, 348, 349, 350, 351, 352, 169, 170, 353, 354, 355, 356, 439, 440, 441, 442, 443, 444, 445, 446, 447, 172, 173, 667, 668, 669, 670, 671, 672, 673, 694, 695, 696, 704, 705, 706, 707, 708, 716, 717, 718, 719, 697, 698, 699, 700] (by decide +kernel) (by decide +kernel)
set_option maxRecDepth 20000 in
theorem gL_law_X8_sideOverlap : GoodIn wsL_law (wsV RL 94 RX8 yX8_sideOverlap wsX8_sideOverlap) := goodIn_app (goodIn_of _ (by decide +kernel)) ggL_law_X8_sideOverlap
set_option maxRecDepth 20000 in
theorem ggL_law_X9_sideOverlap : GoodIn wsL_law wsX9_sideOverlap := goodIn_r _ [468, 106, 107, 284, 285, 286, 5, 287, 128, 129, 130, 131, 469, 470, 471, 472, 308, 309, 310, 311, 101, 100, 102, 386, 387, 388, 389, 99, 333, 334, 335, 336, 361, 362, 363, 364, 98, 93, 221, 94, 95, 182, 183, 184, 365, 366, 367, 368, 369, 370, 371, 452, 453, 454, 674, 675, 676, 677, 678, 679, 680, 681, 682, 683, 684, 685, 686, 687, 688, 689, 690, 691, 692, 693] (by decide +kernel) (by decide +kernel)
set_option maxRecDepth 20000 in
theorem gL_law_X9_sideOverlap : GoodIn wsL_law (wsV RL 97 RX9 yX9_sideOverlap wsX9_sideOverlap) := goodIn_app (goodIn_of _ (by decide +kernel)) ggL_law_X9_sideOverlap
set_option maxRecDepth 20000 in
theorem ggL_law_X8_planPhotos : GoodIn wsL_law wsX8_planPhotos := goodIn_r _ [476, 35, 15, 19, 477, 112, 113, 2, 114, 478, 479, 480, 34, 481, 482, 483, 82, 484, 485, 486, 487, 488, 489, 26, 490, 491, 68, 492, 174, 175, 493, 120, 121, 122, 123, 494, 239, 240, 241, 242, 243, 244, 245, 246, 247, 248, 70, 249, 250, 251, 252, 253, 495, 496, 497, 498, 279, 268, 269, 270, 398, 301, 302, 303, 499, 500, 501, 502, 503, 395, 396, 397, 275, 399, 322, 323, 324, 400, 343, 344, 18, 345, 52, 55, 346, 165, 166, 167, 53, 54, 347, 141, 142, 14, 143, 47, 348, 349, 350, 351, 352, 169, 170, 353, 354, 355, 356, 667, 668, 669, 670, 671, 672, 673, 709, 710, 711, 712, 694, 695, 696, 704, 705, 716, 717, 718, 719, 697, 698, 699, 700] (by decide +kernel) (by decide +kernel)
set_option maxRecDepth 20000 in
theorem gL_law_X8_planPhotos : GoodIn wsL_law (wsV RL 98 RX8 yX8_planPhotos wsX8_planPhotos) := goodIn_app (goodIn_of _ (by decide +kernel)) ggL_law_X8_planPhotos
set_option maxRecDepth 20000 in
theorem ggL_law_X9_planPhotos : GoodIn wsL_law wsX9_planPhotos := goodIn_r _ [507, 508, 417, 418, 5, 419, 129, 130, 131, 509, 510, 511, 512, 513, 106, 107, 514, 515, 516, 517, 518, 519, 104, 361, 362, 363, 364, 98, 93, 221, 94, 95, 182, 183, 184, 365, 366, 367, 368, 369, 370, 371, 520, 521, 522, 523, 524, 525, 526, 527, 674, 675, 676, 677, 678, 679, 680, 681, 682, 683, 684, 685, 686, 687, 688, 689, 690, 691, 692, 693] (by decide +kernel) (by decide +kernel)
set_option maxRecDepth 20000 in
theorem gL_law_X9_planPhotos : GoodIn wsL_law (wsV RL 101 RX9 yX9_planPhotos wsX9_planPhotos) := goodIn_app (goodIn_of _ (by decide +kernel)) ggL_law_X9_planPhotos
set_option maxRecDepth 20000 in
theorem ggL_law_X8_planRowSpacing : GoodIn wsL_law wsX8_planRowSpacing := goodIn_r _ [531, 35, 15, 19, 532, 112, 113, 2, 114, 478, 479, 480, 34, 481, 482, 483, 82, 484, 485, 486, 487, 488, 489, 26, 490, 491, 68, 492, 174, 175, 493, 120, 121, 122, 123, 494, 239, 240, 241, 242, 243, 244, 245, 246, 247, 248, 70, 249, 250, 251, 252, 253, 495, 496, 497, 498, 279, 268, 269, 270, 398, 301, 302, 303, 499, 500, 501, 502, 503, 395, 396, 397, 275, 399, 322, 323, 324, 400, 343, 344, 18, 345, 52, 55, 346, 165, 166, 167, 53, 54, 347, 141, 142, 14, 143, 47, 348, 349, 350, 351, 352, 169, 170, 353, 354, 355, 356, 667, 668, 669, 670, 671, 672, 673, 709, 710, 711, 712, 694, 695, 696, 704, 705, 716, 717, 718, 719, 697, 698, 699, 700] (by decide +kernel) (by decide +kernel)
set_option maxRecDepth 20000 in
theorem gL_law_X8_planRowSpacing : GoodIn wsL_law (wsV RL 102 RX8 yX8_planRowSpacing wsX8_planRowSpacing) := goodIn_app (goodIn_of _ (by decide +kernel)) ggL_law_X8_planRowSpacing
set_option maxRecDepth 20000 in
theorem ggL_law_X9_planRowSpacing : GoodIn wsL_law wsX9_planRowSpacing := goodIn_r _ [536, 514, 417, 418, 5, 419, 129, 130, 131, 509, 510, 511, 512, 513, 508, 106, 107, 515, 516, 517, 518, 519, 104, 361, 362, 363, 364, 98, 93, 221, 94, 95, 182, 183, 184, 365, 366, 367, 368, 369, 370, 371, 520, 521, 522, 523, 524, 525, 526, 527, 674, 675, 676, 677, 678, 679, 680, 681, 682, 683, 684, 685, 686, 687, 688, 689, 690, 691, 692, 693] (by decide +kernel) (by decide +kernel)
set_option maxRecDepth 20000 in
theorem gL_law_X9_planRowSpacing : GoodIn wsL_law (wsV RL 105 RX9 yX9_planRowSpacing wsX9_planRowSpacing) := goodIn_app (goodIn_of _ (by decide +kernel)) ggL_law_X9_planRowSpacing
set_option maxRecDepth 20000 in
theorem ggL_law_X8_planPhotoSpacing : GoodIn wsL_law wsX8_planPhotoSpacing := goodIn_r _ [540, 35, 15, 19, 541, 112, 113, 2, 114, 478, 479, 480, 34, 481, 482, 483, 82, 484, 485, 486, 487, 488, 489, 26, 490, 491, 68, 492, 174, 175, 493, 120, 121, 122, 123, 494, 239, 240, 241, 242, 243, 244, 245, 246, 247, 248, 70, 249, 250, 251, 252, 253, 495, 496, 497, 498, 279, 268, 269, 270, 398, 301, 302, 303, 499, 500, 501, 502, 503, 395, 396, 397, 275, 399, 322, 323, 324, 400, 343, 344, 18, 345, 52, 55, 346, 165, 166, 167, 53, 54, 347, 141, 142, 14, 143, 47, 348, 349, 350, 351, 352, 169, 170, 353, 354, 355, 356, 667, 668, 669, 670, 671, 672, 673, 709, 710, 711, 712, 694, 695, 696, 704, 705, 716, 717, 718, 719, 697, 698, 699, 700] (by decide +kernel) (by decide +kernel)
set_option maxRecDepth 20000 in
theorem gL_law_X8_planPhotoSpacing : GoodIn wsL_law (wsV RL 106 RX8 yX8_planPhotoSpacing wsX8_planPhotoSpacing) := goodIn_app (goodIn_of _ (by decide +kernel)) ggL_law_X8_planPhotoSpacing
set_option maxRecDepth 20000 in
theorem ggL_law_X9_planPhotoSpacing : GoodIn wsL_law wsX9_planPhotoSpacing := goodIn_r _ [545, 515, 417, 418, 5, 419, 129, 130, 131, 509, 510, 511, 512, 513, 508, 106, 107, 514, 516, 517, 518, 519, 104, 361, 362, 363, 364, 98, 93, 221, 94, 95, 182, 183, 184, 365, 366, 367, 368, 369, 370, 371, 520, 521, 522, 523, 524, 525, 526, 527, 674, 675, 676, 677, 678, 679, 680, 681, 682, 683, 684, 685, 686, 687, 688, 689, 690, 691, 692, 693] (by decide +kernel) (by decide +kernel)
set_option maxRecDepth 20000 in
theorem gL_law_X9_planPhotoSpacing : GoodIn wsL_law (wsV RL 109 RX9 yX9_planPhotoSpacing wsX9_planPhotoSpacing) := goodIn_app (goodIn_of _ (by decide +kernel)) ggL_law_X9_planPhotoSpacing
set_option maxRecDepth 20000 in
theorem ggL_law_X8_applyPlan : GoodIn wsL_law wsX8_applyPlan := goodIn_r _ [549, 35, 15, 19, 27, 532, 541, 266, 112, 113, 2, 114, 478, 479, 480, 34, 481, 482, 483, 82, 484, 485, 486, 487, 488, 489, 26, 490, 491, 68, 492, 174, 175, 493, 120, 121, 122, 123, 494, 239, 240, 241, 242, 243, 244, 245, 246, 247, 248, 70, 249, 250, 251, 252, 253, 495, 496, 497, 498, 279, 268, 269, 270, 398, 301, 302, 303, 499, 500, 501, 502, 503, 395, 396, 397, 275, 399, 322, 323, 324, 400, 343, 344, 18, 345, 52, 55, 346, 165, 166, 167, 53, 54, 347, 141, 142, 14, 143, 47, 348, 349, 350, 351, 352, 169, 170, 353, 354, 355, 356, 550, 667, 668, 669, 670, 671, 672, 673, 709, 710, 711, 712, 704, 705, 694, 695, 696, 716, 717, 718, 719, 697, 698, 699, 700] (by decide +kernel) (by decide +kernel)
set_option maxRecDepth 20000 in
theorem gL_law_X8_applyPlan : GoodIn wsL_law (wsV RL 110 RX8 yX8_applyPlan wsX8_applyPlan) := goodIn_app (goodIn_of _ (by decide +kernel)) ggL_law_X8_applyPlan
set_option maxRecDepth 20000 in
theorem ggL_law_X9_applyPlan : GoodIn wsL_law wsX9_applyPlan := goodIn_r _ [554, 128, 514, 106, 107, 515, 417, 418, 5, 419, 129, 130, 131, 509, 510, 511, 512, 513, 508, 516, 517, 518, 519, 104, 361, 362, 363, 364, 98, 93, 221, 94, 95, 182, 183, 184, 365, 366, 367, 368, 369, 370, 371, 520, 521, 522, 523, 524, 525, 526, 527, 258, 259, 260, 261, 99, 100, 101, 102, 674, 675, 676, 677, 678, 679, 680, 681, 682, 683, 684, 685, 686, 687, 688, 689, 690, 691, 692, 693] (by decide +kernel) (by decide +kernel)
set_option maxRecDepth 20000 in
theorem gL_law_X9_applyPlan : GoodIn wsL_law (wsV RL 113 RX9 yX9_applyPlan wsX9_applyPlan) := goodIn_app (goodIn_of _ (by decide +kernel)) ggL_law_X9_applyPlan
set_option maxRecDepth 20000 in
theorem ggL_law_X8_stripTime : GoodIn wsL_law wsX8_stripTime := goodIn_r _ [558, 27, 23, 267, 268, 269, 26, 270, 123, 242, 243, 244, 245, 68, 559, 560, 561, 22, 562, 60, 61, 563, 564, 174, 2, 175, 667, 668, 669, 670, 671, 672, 673, 704, 705, 701, 702, 703, 716, 717, 718, 719] (by decide +kernel) (by decide +kernel)
set_option maxRecDepth 20000 in
theorem gL_law_X8_stripTime : GoodIn wsL_law (wsV RL 114 RX8 yX8_stripTime wsX8_stripTime) := goodIn_app (goodIn_of _ (by decide +kernel)) ggL_law_X8_stripTime
set_option maxRecDepth 20000 in
theorem ggL_law_X9_stripTime : GoodIn wsL_law wsX9_stripTime := goodIn_r _ [568, 284, 285, 286, 5, 287, 128, 129, 130, 131, 569, 570, 571, 572, 96, 233, 101, 100, 674, 675, 676, 677, 678, 679, 680, 681, 682, 683, 684, 685, 686, 687, 688, 689, 690, 691, 692, 693] (by decide +kernel) (by decide +kernel)
set_option maxRecDepth 20000 in
theorem gL_law_X9_stripTime : GoodIn wsL_law (wsV RL 118 RX9 yX9_stripTime wsX9_stripTime) := goodIn_app (goodIn_of _ (by decide +kernel)) ggL_law_X9_stripTime
set_option maxRecDepth 20000 in
theorem ggL_law_X8_routeTime : GoodIn wsL_law wsX8_routeTime := goodIn_r _ [576, 15, 39, 27, 23, 136, 137, 138, 14, 139, 44, 45, 577, 578, 579, 38, 580, 581, 582, 583, 584, 585, 586, 587, 588, 268, 269, 26, 270, 123, 242, 243, 244, 245, 68, 589, 590, 591, 592, 593, 594, 595, 596, 597, 70, 598, 252, 251, 599, 600, 601, 602, 603, 604, 605, 606, 22, 607, 608, 609, 165, 166, 167, 60, 62, 610, 611, 612, 613, 174, 2, 175, 614, 560, 561, 562, 61, 563, 564, 615, 616, 617, 618, 88, 619, 620, 621, 622, 667, 668, 669, 670, 671, 672, 673, 694, 695, 696, 704, 705, 713, 714, 715, 716, 717, 718, 719, 701, 702, 703] (by decide +kernel) (by decide +kernel)
set_option maxRecDepth 20000 in
theorem gL_law_X8_routeTime : GoodIn wsL_law (wsV RL 119 RX8 yX8_routeTime wsX8_routeTime) := goodIn_app (goodIn_of _ (by decide +kernel)) ggL_law_X8_routeTime
set_option maxRecDepth 20000 in
theorem ggL_law_X9_routeTime : GoodIn wsL_law wsX9_routeTime := goodIn_r _ [626, 128, 152, 153, 154, 5, 155, 106, 107, 129, 130, 131, 627, 628, 629, 630, 105, 99, 631, 632, 633, 634, 101, 100, 635, 636, 637, 638, 513, 639, 640, 641, 642, 643, 644, 645, 646, 96, 97, 182, 183, 184, 647, 648, 649, 650, 569, 570, 571, 572, 233, 674, 675, 676, 677, 678, 679, 680, 681, 682, 683, 684, 685, 686, 687, 688, 689, 690, 691, 692, 693] (by decide +kernel) (by decide +kernel)
set_option maxRecDepth 20000 in
theorem gL_law_X9_routeTime : GoodIn wsL_law (wsV RL 122 RX9 yX9_routeTime wsX9_routeTime) := goodIn_app (goodIn_of _ (by decide +kernel)) ggL_law_X9_routeTime
set_option maxRecDepth 20000 in
theorem ggL_law_X8_routeStep : GoodIn wsL_law wsX8_routeStep := goodIn_r _ [654, 15, 27, 266, 39, 23, 136, 137, 138, 14, 139, 44, 45, 655, 656, 657, 38, 658, 581, 603, 587, 583, 584, 585, 586, 582, 588, 268, 269, 26, 270, 123, 242, 243, 244, 245, 68, 589, 590, 591, 592, 593, 594, 595, 596, 597, 70, 598, 252, 251, 599, 600, 601, 602, 604, 605, 606, 22, 607, 608, 609, 165, 166, 167, 60, 62, 610, 611, 612, 613, 174, 2, 175, 614, 560, 561, 562, 61, 563, 564, 615, 616, 617, 618, 88, 619, 620, 621, 622, 667, 668, 669, 670, 671, 672, 673, 704, 705, 694, 695, 696, 713, 714, 715, 716, 717, 718, 719, 701, 702, 703] (by decide +kernel) (by decide +kernel)
set_option maxRecDepth 20000 in
theorem gL_law_X8_routeStep : GoodIn wsL_law (wsV RL 123 RX8 yX8_routeStep wsX8_routeStep) := goodIn_app (goodIn_of _ (by decide +kernel)) ggL_law_X8_routeStep
set_option maxRecDepth 20000 in
theorem ggL_law_X9_routeStep : GoodIn wsL_law wsX9_routeStep := goodIn_r _ [662, 128, 99, 152, 153, 154, 5, 155, 106, 107, 129, 130, 131, 627, 628, 629, 630, 105, 631, 632, 633, 634, 101, 100, 635, 636, 637, 638, 513, 639, 640, 641, 642, 643, 644, 645, 646, 96, 97, 182, 183, 184, 647, 648, 649, 650, 569, 570, 571, 572, 233, 663, 664, 665, 666, 674, 675, 676, 677, 678, 679, 680, 681, 682, 683, 684, 685, 686, 687, 688, 689, 690, 691, 692, 693] (by decide +kernel) (by decide +kernel)
set_option maxRecDepth 20000 in
theorem gL_law_X9_routeStep : GoodIn wsL_law (wsV RL 126 RX9 yX9_routeStep wsX9_routeStep) := goodIn_app (goodIn_of _ (by decide +kernel)) ggL_law_X9_routeStep
