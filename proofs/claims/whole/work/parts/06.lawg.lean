set_option maxRecDepth 20000 in
theorem ggL_law_X5_init : GoodIn wsL_law wsX5_init := goodIn_r _ [8, 9, 10, 11, 12, 13, 14, 15, 16, 17, 18, 19, 20, 21, 22, 23, 24, 25, 26, 27, 28, 29, 30, 31, 32, 33, 34, 35, 36, 37, 38, 39, 40, 41, 42, 43, 44, 45, 46, 47, 48, 49, 50, 51, 52, 53, 54, 55, 56, 57, 58, 59, 748, 749, 750, 751, 752, 753, 754, 711, 712, 713, 714, 715, 716, 717, 755, 756, 757, 758, 759, 760, 761, 762, 763, 764, 765, 766, 767, 768] (by decide +kernel) (by decide +kernel)
set_option maxRecDepth 20000 in
theorem gL_law_X5_init : GoodIn wsL_law (wsX5_init) := ggL_law_X5_init
set_option maxRecDepth 20000 in
theorem ggL_law_X6_init : GoodIn wsL_law wsX6_init := goodIn_r _ [62, 63, 10, 11, 35, 64, 65, 66, 67, 68, 69, 70, 71, 72, 73, 74, 75, 76, 77, 78, 79, 718, 719, 720, 721, 722, 723, 724, 725, 726, 727, 728, 729, 730, 731, 732, 733, 734, 735, 736, 737, 738, 739, 740, 741, 742, 743, 744, 745, 746, 747] (by decide +kernel) (by decide +kernel)
set_option maxRecDepth 20000 in
theorem gL_law_X6_init : GoodIn wsL_law (wsX6_init) := ggL_law_X6_init
set_option maxRecDepth 20000 in
theorem ggL_law_X5_well : GoodIn wsL_law wsX5_well := goodIn_r _ [83, 84, 29, 15, 19, 85, 86, 87, 2, 88, 89, 90, 91, 92, 93, 94, 31, 95, 59, 96, 97, 98, 99, 100, 101, 102, 103, 104, 105, 106, 107, 108, 109, 110, 111, 112, 113, 114, 115, 58, 116, 117, 118, 119, 120, 121, 122, 14, 123, 124, 125, 126, 127, 128, 129, 130, 131, 132, 36, 37, 38, 133, 134, 135, 18, 136, 137, 711, 712, 713, 714, 715, 716, 717, 748, 749, 750, 751, 752, 753, 754, 766, 767, 768, 755, 756, 757] (by decide +kernel) (by decide +kernel)
set_option maxRecDepth 20000 in
theorem gL_law_X5_well : GoodIn wsL_law (wsV RL 13 RX5 yX5_well wsX5_well) := goodIn_app (goodIn_of _ (by decide +kernel)) ggL_law_X5_well
set_option maxRecDepth 20000 in
theorem ggL_law_X6_well : GoodIn wsL_law wsX6_well := goodIn_r _ [141, 142, 143, 144, 145, 146, 147, 148, 149, 150, 151, 64, 67, 65, 68, 66, 69, 152, 153, 154, 5, 155, 156, 157, 158, 159, 160, 161, 162, 163, 164, 165, 166, 167, 168, 76, 77, 169, 170, 171, 172, 173, 174, 175, 176, 177, 178, 179, 180, 181, 182, 183, 78, 184, 185, 186, 187, 188, 189, 190, 191, 718, 719, 720, 721, 722, 723, 724, 725, 726, 727, 728, 729, 730, 731, 732, 733, 734, 735, 736, 737, 738, 739, 740, 741, 742, 743, 744, 745, 746, 747] (by decide +kernel) (by decide +kernel)
set_option maxRecDepth 20000 in
theorem gL_law_X6_well : GoodIn wsL_law (wsV RL 17 RX6 yX6_well wsX6_well) := goodIn_app (goodIn_of _ (by decide +kernel)) ggL_law_X6_well
set_option maxRecDepth 20000 in
theorem ggL_law_X5_ofPin : GoodIn wsL_law wsX5_ofPin := goodIn_r _ [195, 15, 196, 197, 198, 199, 14, 200, 126, 201, 202, 203, 204, 36, 205, 206, 207, 208, 209, 37, 210, 211, 212, 213, 38, 214, 215, 2, 216, 217, 218, 219, 220, 124, 125, 221, 222, 711, 712, 713, 714, 715, 716, 717, 748, 749, 750, 751, 752, 753, 754] (by decide +kernel) (by decide +kernel)
set_option maxRecDepth 20000 in
theorem gL_law_X5_ofPin : GoodIn wsL_law (wsV RL 18 RX5 yX5_ofPin wsX5_ofPin) := goodIn_app (goodIn_of _ (by decide +kernel)) ggL_law_X5_ofPin
set_option maxRecDepth 20000 in
theorem ggL_law_X6_ofPin : GoodIn wsL_law wsX6_ofPin := goodIn_r _ [226, 64, 65, 66, 151, 227, 228, 229, 5, 230, 145, 157, 158, 159, 231, 232, 233, 234, 235, 236, 237, 238, 239, 240, 241, 242, 243, 244, 245, 147, 149, 718, 719, 720, 721, 722, 723, 724, 725, 726, 727, 728, 729, 730, 731, 732, 733, 734, 735, 736, 737, 738, 739, 740, 741, 742, 743, 744, 745, 746, 747] (by decide +kernel) (by decide +kernel)
set_option maxRecDepth 20000 in
theorem gL_law_X6_ofPin : GoodIn wsL_law (wsV RL 22 RX6 yX6_ofPin wsX6_ofPin) := goodIn_app (goodIn_of _ (by decide +kernel)) ggL_law_X6_ofPin
set_option maxRecDepth 20000 in
theorem ggL_law_X5_bend : GoodIn wsL_law wsX5_bend := goodIn_r _ [249, 15, 197, 198, 199, 14, 200, 126, 250, 251, 2, 252, 206, 207, 208, 209, 37, 205, 253, 254, 255, 256, 711, 712, 713, 714, 715, 716, 717, 748, 749, 750, 751, 752, 753, 754] (by decide +kernel) (by decide +kernel)
set_option maxRecDepth 20000 in
theorem gL_law_X5_bend : GoodIn wsL_law (wsV RL 23 RX5 yX5_bend wsX5_bend) := goodIn_app (goodIn_of _ (by decide +kernel)) ggL_law_X5_bend
set_option maxRecDepth 20000 in
theorem ggL_law_X6_bend : GoodIn wsL_law wsX6_bend := goodIn_r _ [260, 261, 65, 227, 228, 229, 5, 230, 145, 157, 158, 159, 718, 719, 720, 721, 722, 723, 724, 725, 726, 727, 728, 729, 730, 731, 732, 733, 734, 735, 736, 737, 738, 739, 740, 741, 742, 743, 744, 745, 746, 747] (by decide +kernel) (by decide +kernel)
set_option maxRecDepth 20000 in
theorem gL_law_X6_bend : GoodIn wsL_law (wsV RL 26 RX6 yX6_bend wsX6_bend) := goodIn_app (goodIn_of _ (by decide +kernel)) ggL_law_X6_bend
set_option maxRecDepth 20000 in
theorem ggL_law_X5_rekey : GoodIn wsL_law wsX5_rekey := goodIn_r _ [265, 15, 266, 267, 268, 269, 270, 2, 271, 85, 272, 273, 274, 711, 712, 713, 714, 715, 716, 717, 748, 749, 750, 751, 752, 753, 754] (by decide +kernel) (by decide +kernel)
set_option maxRecDepth 20000 in
theorem gL_law_X5_rekey : GoodIn wsL_law (wsV RL 27 RX5 yX5_rekey wsX5_rekey) := goodIn_app (goodIn_of _ (by decide +kernel)) ggL_law_X5_rekey
set_option maxRecDepth 20000 in
theorem ggL_law_X6_rekey : GoodIn wsL_law wsX6_rekey := goodIn_r _ [278, 145, 279, 147, 149, 157, 158, 5, 159, 718, 719, 720, 721, 722, 723, 724, 725, 726, 727, 728, 729, 730, 731, 732, 733, 734, 735, 736, 737, 738, 739, 740, 741, 742, 743, 744, 745, 746, 747] (by decide +kernel) (by decide +kernel)
set_option maxRecDepth 20000 in
theorem gL_law_X6_rekey : GoodIn wsL_law (wsV RL 30 RX6 yX6_rekey wsX6_rekey) := goodIn_app (goodIn_of _ (by decide +kernel)) ggL_law_X6_rekey
set_option maxRecDepth 20000 in
theorem ggL_law_X5_wished : GoodIn wsL_law wsX5_wished := goodIn_r _ [283, 15, 85, 268, 269, 270, 2, 271, 284, 285, 286, 217, 218, 219, 14, 220, 124, 36, 37, 125, 38, 205, 198, 199, 200, 126, 215, 216, 221, 222, 711, 712, 713, 714, 715, 716, 717, 748, 749, 750, 751, 752, 753, 754] (by decide +kernel) (by decide +kernel)
set_option maxRecDepth 20000 in
theorem gL_law_X5_wished : GoodIn wsL_law (wsV RL 31 RX5 yX5_wished wsX5_wished) := goodIn_app (goodIn_of _ (by decide +kernel)) ggL_law_X5_wished
set_option maxRecDepth 20000 in
theorem ggL_law_X6_wished : GoodIn wsL_law wsX6_wished := goodIn_r _ [290, 145, 279, 157, 158, 5, 159, 238, 239, 240, 241, 66, 231, 232, 233, 234, 64, 65, 235, 236, 237, 242, 243, 244, 245, 147, 149, 718, 719, 720, 721, 722, 723, 724, 725, 726, 727, 728, 729, 730, 731, 732, 733, 734, 735, 736, 737, 738, 739, 740, 741, 742, 743, 744, 745, 746, 747] (by decide +kernel) (by decide +kernel)
set_option maxRecDepth 20000 in
theorem gL_law_X6_wished : GoodIn wsL_law (wsV RL 35 RX6 yX6_wished wsX6_wished) := goodIn_app (goodIn_of _ (by decide +kernel)) ggL_law_X6_wished
set_option maxRecDepth 20000 in
theorem ggL_law_X5_throwIn : GoodIn wsL_law wsX5_throwIn := goodIn_r _ [294, 15, 85, 295, 296, 2, 297, 250, 251, 252, 268, 269, 270, 271, 298, 130, 131, 14, 132, 126, 36, 37, 38, 127, 217, 218, 219, 220, 124, 125, 205, 198, 199, 200, 215, 216, 221, 222, 711, 712, 713, 714, 715, 716, 717, 748, 749, 750, 751, 752, 753, 754] (by decide +kernel) (by decide +kernel)
set_option maxRecDepth 20000 in
theorem gL_law_X5_throwIn : GoodIn wsL_law (wsV RL 36 RX5 yX5_throwIn wsX5_throwIn) := goodIn_app (goodIn_of _ (by decide +kernel)) ggL_law_X5_throwIn
set_option maxRecDepth 20000 in
theorem ggL_law_X6_throwIn : GoodIn wsL_law wsX6_throwIn := goodIn_r _ [302, 142, 261, 145, 157, 158, 5, 159, 303, 304, 305, 306, 64, 65, 66, 151, 238, 239, 240, 241, 231, 232, 233, 234, 235, 236, 237, 242, 243, 244, 245, 147, 149, 718, 719, 720, 721, 722, 723, 724, 725, 726, 727, 728, 729, 730, 731, 732, 733, 734, 735, 736, 737, 738, 739, 740, 741, 742, 743, 744, 745, 746, 747] (by decide +kernel) (by decide +kernel)
set_option maxRecDepth 20000 in
theorem gL_law_X6_throwIn : GoodIn wsL_law (wsV RL 39 RX6 yX6_throwIn wsX6_throwIn) := goodIn_app (goodIn_of _ (by decide +kernel)) ggL_law_X6_throwIn
set_option maxRecDepth 20000 in
theorem ggL_law_X5_fish : GoodIn wsL_law wsX5_fish := goodIn_r _ [310, 15, 85, 19, 217, 218, 219, 14, 220, 124, 36, 37, 125, 38, 205, 198, 199, 200, 126, 215, 2, 216, 221, 222, 311, 312, 313, 314, 133, 134, 135, 18, 136, 137, 711, 712, 713, 714, 715, 716, 717, 748, 749, 750, 751, 752, 753, 754, 755, 756, 757] (by decide +kernel) (by decide +kernel)
set_option maxRecDepth 20000 in
theorem gL_law_X5_fish : GoodIn wsL_law (wsV RL 40 RX5 yX5_fish wsX5_fish) := goodIn_app (goodIn_of _ (by decide +kernel)) ggL_law_X5_fish
set_option maxRecDepth 20000 in
theorem ggL_law_X6_fish : GoodIn wsL_law wsX6_fish := goodIn_r _ [318, 145, 152, 238, 239, 240, 5, 241, 66, 231, 232, 233, 234, 64, 65, 235, 236, 237, 242, 243, 244, 245, 147, 149, 718, 719, 720, 721, 722, 723, 724, 725, 726, 727, 728, 729, 730, 731, 732, 733, 734, 735, 736, 737, 738, 739, 740, 741, 742, 743, 744, 745, 746, 747] (by decide +kernel) (by decide +kernel)
set_option maxRecDepth 20000 in
theorem gL_law_X6_fish : GoodIn wsL_law (wsV RL 44 RX6 yX6_fish wsX6_fish) := goodIn_app (goodIn_of _ (by decide +kernel)) ggL_law_X6_fish
set_option maxRecDepth 20000 in
theorem ggL_law_X5_years : GoodIn wsL_law wsX5_years := goodIn_r _ [322, 15, 196, 268, 269, 270, 2, 271, 85, 711, 712, 713, 714, 715, 716, 717, 748, 749, 750, 751, 752, 753, 754] (by decide +kernel) (by decide +kernel)
set_option maxRecDepth 20000 in
theorem gL_law_X5_years : GoodIn wsL_law (wsV RL 45 RX5 yX5_years wsX5_years) := goodIn_app (goodIn_of _ (by decide +kernel)) ggL_law_X5_years
set_option maxRecDepth 20000 in
theorem ggL_law_X6_years : GoodIn wsL_law wsX6_years := goodIn_r _ [326, 327, 145, 151, 157, 158, 5, 159, 718, 719, 720, 721, 722, 723, 724, 725, 726, 727, 728, 729, 730, 731, 732, 733, 734, 735, 736, 737, 738, 739, 740, 741, 742, 743, 744, 745, 746, 747] (by decide +kernel) (by decide +kernel)
set_option maxRecDepth 20000 in
theorem gL_law_X6_years : GoodIn wsL_law (wsV RL 48 RX6 yX6_years wsX6_years) := goodIn_app (goodIn_of _ (by decide +kernel)) ggL_law_X6_years
set_option maxRecDepth 20000 in
theorem ggL_law_X5_century : GoodIn wsL_law wsX5_century := goodIn_r _ [331, 84, 29, 23, 15, 86, 87, 2, 88, 89, 90, 91, 332, 333, 334, 268, 269, 270, 271, 85, 335, 336, 337, 31, 338, 339, 93, 94, 95, 59, 96, 97, 98, 99, 116, 101, 102, 103, 104, 105, 106, 107, 108, 112, 113, 114, 115, 58, 340, 341, 342, 295, 296, 297, 250, 251, 252, 343, 344, 345, 22, 346, 48, 347, 348, 349, 350, 351, 14, 352, 36, 353, 354, 355, 356, 37, 38, 126, 124, 125, 127, 357, 358, 359, 360, 361, 362, 363, 364, 312, 313, 314, 365, 218, 219, 220, 205, 198, 199, 200, 215, 216, 221, 222, 366, 130, 131, 132, 367, 368, 369, 370, 371, 372, 373, 374, 711, 712, 713, 714, 715, 716, 717, 748, 749, 750, 751, 752, 753, 754, 766, 767, 768, 758, 759, 760] (by decide +kernel) (by decide +kernel)
set_option maxRecDepth 20000 in
theorem gL_law_X5_century : GoodIn wsL_law (wsV RL 49 RX5 yX5_century wsX5_century) := goodIn_app (goodIn_of _ (by decide +kernel)) ggL_law_X5_century
set_option maxRecDepth 20000 in
theorem ggL_law_X6_century : GoodIn wsL_law wsX6_century := goodIn_r _ [378, 142, 379, 380, 381, 382, 145, 78, 153, 154, 5, 155, 156, 157, 158, 159, 160, 161, 162, 163, 164, 165, 166, 167, 168, 76, 77, 169, 170, 171, 172, 173, 174, 175, 383, 384, 385, 261, 327, 386, 387, 388, 389, 390, 151, 391, 70, 64, 71, 65, 72, 66, 392, 393, 394, 395, 303, 304, 305, 306, 238, 239, 240, 241, 231, 232, 233, 234, 235, 236, 237, 242, 243, 244, 245, 147, 149, 227, 228, 229, 230, 396, 397, 398, 399, 718, 719, 720, 721, 722, 723, 724, 725, 726, 727, 728, 729, 730, 731, 732, 733, 734, 735, 736, 737, 738, 739, 740, 741, 742, 743, 744, 745, 746, 747] (by decide +kernel) (by decide +kernel)
set_option maxRecDepth 20000 in
theorem gL_law_X6_century : GoodIn wsL_law (wsV RL 53 RX6 yX6_century wsX6_century) := goodIn_app (goodIn_of _ (by decide +kernel)) ggL_law_X6_century
set_option maxRecDepth 20000 in
theorem ggL_law_X5_quiet : GoodIn wsL_law wsX5_quiet := goodIn_r _ [403, 15, 85, 196, 268, 269, 270, 2, 271, 210, 211, 212, 14, 213, 38, 205, 198, 199, 200, 126, 711, 712, 713, 714, 715, 716, 717, 748, 749, 750, 751, 752, 753, 754] (by decide +kernel) (by decide +kernel)
set_option maxRecDepth 20000 in
theorem gL_law_X5_quiet : GoodIn wsL_law (wsV RL 54 RX5 yX5_quiet wsX5_quiet) := goodIn_app (goodIn_of _ (by decide +kernel)) ggL_law_X5_quiet
set_option maxRecDepth 20000 in
theorem ggL_law_X6_quiet : GoodIn wsL_law wsX6_quiet := goodIn_r _ [407, 145, 151, 66, 157, 158, 5, 159, 718, 719, 720, 721, 722, 723, 724, 725, 726, 727, 728, 729, 730, 731, 732, 733, 734, 735, 736, 737, 738, 739, 740, 741, 742, 743, 744, 745, 746, 747] (by decide +kernel) (by decide +kernel)
set_option maxRecDepth 20000 in
theorem gL_law_X6_quiet : GoodIn wsL_law (wsV RL 57 RX6 yX6_quiet wsX6_quiet) := goodIn_app (goodIn_of _ (by decide +kernel)) ggL_law_X6_quiet
set_option maxRecDepth 20000 in
theorem ggL_law_X5_run : GoodIn wsL_law wsX5_run := goodIn_r _ [411, 15, 85, 268, 269, 270, 2, 271, 217, 218, 219, 14, 220, 124, 36, 37, 125, 38, 205, 198, 199, 200, 126, 215, 216, 221, 222, 711, 712, 713, 714, 715, 716, 717, 748, 749, 750, 751, 752, 753, 754] (by decide +kernel) (by decide +kernel)
set_option maxRecDepth 20000 in
theorem gL_law_X5_run : GoodIn wsL_law (wsV RL 58 RX5 yX5_run wsX5_run) := goodIn_app (goodIn_of _ (by decide +kernel)) ggL_law_X5_run
set_option maxRecDepth 20000 in
theorem ggL_law_X6_run : GoodIn wsL_law wsX6_run := goodIn_r _ [415, 145, 157, 158, 5, 159, 238, 239, 240, 241, 66, 231, 232, 233, 234, 64, 65, 235, 236, 237, 242, 243, 244, 245, 147, 149, 718, 719, 720, 721, 722, 723, 724, 725, 726, 727, 728, 729, 730, 731, 732, 733, 734, 735, 736, 737, 738, 739, 740, 741, 742, 743, 744, 745, 746, 747] (by decide +kernel) (by decide +kernel)
set_option maxRecDepth 20000 in
theorem gL_law_X6_run : GoodIn wsL_law (wsV RL 61 RX6 yX6_run wsX6_run) := goodIn_app (goodIn_of _ (by decide +kernel)) ggL_law_X6_run
set_option maxRecDepth 20000 in
theorem ggL_law_X5_shape : GoodIn wsL_law wsX5_shape := goodIn_r _ [419, 15, 268, 269, 270, 2, 271, 85, 295, 296, 297, 284, 285, 286, 420, 421, 422, 14, 423, 124, 125, 127, 215, 216, 221, 222, 711, 712, 713, 714, 715, 716, 717, 748, 749, 750, 751, 752, 753, 754] (by decide +kernel) (by decide +kernel)
set_option maxRecDepth 20000 in
theorem gL_law_X5_shape : GoodIn wsL_law (wsV RL 62 RX5 yX5_shape wsX5_shape) := goodIn_app (goodIn_of _ (by decide +kernel)) ggL_law_X5_shape
set_option maxRecDepth 20000 in
theorem ggL_law_X6_shape : GoodIn wsL_law wsX6_shape := goodIn_r _ [427, 145, 142, 279, 151, 157, 158, 5, 159, 235, 236, 237, 242, 243, 244, 245, 147, 149, 718, 719, 720, 721, 722, 723, 724, 725, 726, 727, 728, 729, 730, 731, 732, 733, 734, 735, 736, 737, 738, 739, 740, 741, 742, 743, 744, 745, 746, 747] (by decide +kernel) (by decide +kernel)
set_option maxRecDepth 20000 in
theorem gL_law_X6_shape : GoodIn wsL_law (wsV RL 65 RX6 yX6_shape wsX6_shape) := goodIn_app (goodIn_of _ (by decide +kernel)) ggL_law_X6_shape
set_option maxRecDepth 20000 in
theorem ggL_law_X5_layers : GoodIn wsL_law wsX5_layers := goodIn_r _ [431, 84, 29, 15, 85, 27, 432, 86, 87, 2, 88, 89, 90, 91, 268, 269, 270, 271, 335, 336, 337, 31, 338, 339, 93, 94, 95, 59, 96, 97, 98, 99, 116, 101, 102, 103, 104, 105, 106, 107, 108, 112, 113, 114, 115, 58, 284, 285, 286, 433, 434, 435, 26, 436, 437, 438, 439, 440, 441, 442, 54, 52, 443, 53, 444, 445, 446, 447, 448, 449, 14, 450, 36, 37, 205, 198, 199, 200, 126, 215, 216, 451, 452, 453, 454, 455, 211, 212, 213, 38, 456, 457, 458, 459, 460, 461, 462, 463, 464, 465, 466, 467, 711, 712, 713, 714, 715, 716, 717, 748, 749, 750, 751, 752, 753, 754, 761, 762, 763, 764, 765, 766, 767, 768] (by decide +kernel) (by decide +kernel)
set_option maxRecDepth 20000 in
theorem gL_law_X5_layers : GoodIn wsL_law (wsV RL 66 RX5 yX5_layers wsX5_layers) := goodIn_app (goodIn_of _ (by decide +kernel)) ggL_law_X5_layers
set_option maxRecDepth 20000 in
theorem ggL_law_X6_layers : GoodIn wsL_law wsX6_layers := goodIn_r _ [471, 142, 472, 473, 145, 78, 474, 73, 153, 154, 5, 155, 156, 157, 158, 159, 160, 161, 162, 163, 164, 165, 166, 167, 168, 76, 77, 169, 170, 171, 172, 173, 174, 175, 475, 476, 477, 478, 479, 480, 481, 482, 483, 484, 485, 486, 487, 488, 66, 231, 232, 233, 234, 64, 65, 235, 236, 237, 242, 243, 244, 245, 147, 149, 489, 490, 491, 492, 718, 719, 720, 721, 722, 723, 724, 725, 726, 727, 728, 729, 730, 731, 732, 733, 734, 735, 736, 737, 738, 739, 740, 741, 742, 743, 744, 745, 746, 747] (by decide +kernel) (by decide +kernel)
set_option maxRecDepth 20000 in
theorem gL_law_X6_layers : GoodIn wsL_law (wsV RL 69 RX6 yX6_layers wsX6_layers) := goodIn_app (goodIn_of _ (by decide +kernel)) ggL_law_X6_layers
set_option maxRecDepth 20000 in
theorem ggL_law_X5_reading : GoodIn wsL_law wsX5_reading := goodIn_r _ [496, 15, 19, 497, 197, 198, 199, 14, 200, 126, 284, 285, 2, 286, 498, 499, 500, 18, 501, 137, 42, 43, 711, 712, 713, 714, 715, 716, 717, 755, 756, 757, 748, 749, 750, 751, 752, 753, 754] (by decide +kernel) (by decide +kernel)
set_option maxRecDepth 20000 in
theorem gL_law_X5_reading : GoodIn wsL_law (wsV RL 70 RX5 yX5_reading wsX5_reading) := goodIn_app (goodIn_of _ (by decide +kernel)) ggL_law_X5_reading
set_option maxRecDepth 20000 in
theorem ggL_law_X6_reading : GoodIn wsL_law wsX6_reading := goodIn_r _ [505, 279, 152, 74, 75, 227, 228, 229, 5, 230, 145, 157, 158, 159, 718, 719, 720, 721, 722, 723, 724, 725, 726, 727, 728, 729, 730, 731, 732, 733, 734, 735, 736, 737, 738, 739, 740, 741, 742, 743, 744, 745, 746, 747] (by decide +kernel) (by decide +kernel)
set_option maxRecDepth 20000 in
theorem gL_law_X6_reading : GoodIn wsL_law (wsV RL 73 RX6 yX6_reading wsX6_reading) := goodIn_app (goodIn_of _ (by decide +kernel)) ggL_law_X6_reading
set_option maxRecDepth 20000 in
theorem ggL_law_X5_back : GoodIn wsL_law wsX5_back := goodIn_r _ [509, 19, 497, 711, 712, 713, 714, 715, 716, 717, 755, 756, 757] (by decide +kernel) (by decide +kernel)
set_option maxRecDepth 20000 in
theorem gL_law_X5_back : GoodIn wsL_law (wsV RL 74 RX5 yX5_back wsX5_back) := goodIn_app (goodIn_of _ (by decide +kernel)) ggL_law_X5_back
set_option maxRecDepth 20000 in
theorem ggL_law_X6_back : GoodIn wsL_law wsX6_back := goodIn_r _ [513, 152, 157, 158, 5, 159, 718, 719, 720, 721, 722, 723, 724, 725, 726, 727, 728, 729, 730, 731, 732, 733, 734, 735, 736, 737, 738, 739, 740, 741, 742, 743, 744, 745, 746, 747] (by decide +kernel) (by decide +kernel)
set_option maxRecDepth 20000 in
theorem gL_law_X6_back : GoodIn wsL_law (wsV RL 77 RX6 yX6_back wsX6_back) := goodIn_app (goodIn_of _ (by decide +kernel)) ggL_law_X6_back
set_option maxRecDepth 20000 in
theorem ggL_law_X5_bends : GoodIn wsL_law wsX5_bends := goodIn_r _ [517, 15, 19, 197, 198, 199, 14, 200, 126, 201, 202, 203, 204, 36, 205, 214, 215, 2, 216, 518, 519, 520, 18, 521, 137, 42, 522, 523, 43, 524, 448, 449, 450, 37, 525, 211, 212, 213, 38, 221, 222, 711, 712, 713, 714, 715, 716, 717, 748, 749, 750, 751, 752, 753, 754, 755, 756, 757] (by decide +kernel) (by decide +kernel)
set_option maxRecDepth 20000 in
theorem gL_law_X5_bends : GoodIn wsL_law (wsV RL 78 RX5 yX5_bends wsX5_bends) := goodIn_app (goodIn_of _ (by decide +kernel)) ggL_law_X5_bends
set_option maxRecDepth 20000 in
theorem ggL_law_X6_bends : GoodIn wsL_law wsX6_bends := goodIn_r _ [529, 65, 227, 228, 229, 5, 230, 145, 157, 158, 159, 530, 531, 532, 533, 152, 74, 75, 238, 239, 240, 241, 66, 231, 232, 233, 234, 64, 235, 236, 237, 242, 243, 244, 245, 147, 149, 718, 719, 720, 721, 722, 723, 724, 725, 726, 727, 728, 729, 730, 731, 732, 733, 734, 735, 736, 737, 738, 739, 740, 741, 742, 743, 744, 745, 746, 747] (by decide +kernel) (by decide +kernel)
set_option maxRecDepth 20000 in
theorem gL_law_X6_bends : GoodIn wsL_law (wsV RL 81 RX6 yX6_bends wsX6_bends) := goodIn_app (goodIn_of _ (by decide +kernel)) ggL_law_X6_bends
set_option maxRecDepth 20000 in
theorem ggL_law_X5_kinds : GoodIn wsL_law wsX5_kinds := goodIn_r _ [537, 15, 19, 197, 198, 199, 14, 200, 126, 206, 207, 208, 209, 37, 205, 214, 215, 2, 216, 518, 519, 520, 18, 521, 137, 42, 522, 523, 43, 524, 448, 449, 450, 36, 525, 211, 212, 213, 38, 221, 222, 711, 712, 713, 714, 715, 716, 717, 748, 749, 750, 751, 752, 753, 754, 755, 756, 757] (by decide +kernel) (by decide +kernel)
set_option maxRecDepth 20000 in
theorem gL_law_X5_kinds : GoodIn wsL_law (wsV RL 82 RX5 yX5_kinds wsX5_kinds) := goodIn_app (goodIn_of _ (by decide +kernel)) ggL_law_X5_kinds
set_option maxRecDepth 20000 in
theorem ggL_law_X6_kinds : GoodIn wsL_law wsX6_kinds := goodIn_r _ [541, 64, 227, 228, 229, 5, 230, 145, 157, 158, 159, 530, 531, 532, 533, 152, 74, 75, 238, 239, 240, 241, 66, 231, 232, 233, 234, 65, 235, 236, 237, 242, 243, 244, 245, 147, 149, 718, 719, 720, 721, 722, 723, 724, 725, 726, 727, 728, 729, 730, 731, 732, 733, 734, 735, 736, 737, 738, 739, 740, 741, 742, 743, 744, 745, 746, 747] (by decide +kernel) (by decide +kernel)
set_option maxRecDepth 20000 in
theorem gL_law_X6_kinds : GoodIn wsL_law (wsV RL 85 RX6 yX6_kinds wsX6_kinds) := goodIn_app (goodIn_of _ (by decide +kernel)) ggL_law_X6_kinds
set_option maxRecDepth 20000 in
theorem ggL_law_X5_keys : GoodIn wsL_law wsX5_keys := goodIn_r _ [545, 19, 15, 268, 269, 270, 2, 271, 85, 546, 547, 548, 18, 549, 137, 42, 43, 524, 448, 449, 14, 450, 36, 37, 205, 198, 199, 200, 126, 215, 216, 525, 211, 212, 213, 38, 221, 222, 272, 273, 274, 711, 712, 713, 714, 715, 716, 717, 748, 749, 750, 751, 752, 753, 754, 755, 756, 757] (by decide +kernel) (by decide +kernel)
set_option maxRecDepth 20000 in
theorem gL_law_X5_keys : GoodIn wsL_law (wsV RL 86 RX5 yX5_keys wsX5_keys) := goodIn_app (goodIn_of _ (by decide +kernel)) ggL_law_X5_keys
set_option maxRecDepth 20000 in
theorem ggL_law_X6_keys : GoodIn wsL_law wsX6_keys := goodIn_r _ [553, 145, 142, 147, 149, 157, 158, 5, 159, 530, 531, 532, 533, 152, 74, 75, 238, 239, 240, 241, 66, 231, 232, 233, 234, 64, 65, 235, 236, 237, 242, 243, 244, 245, 718, 719, 720, 721, 722, 723, 724, 725, 726, 727, 728, 729, 730, 731, 732, 733, 734, 735, 736, 737, 738, 739, 740, 741, 742, 743, 744, 745, 746, 747] (by decide +kernel) (by decide +kernel)
set_option maxRecDepth 20000 in
theorem gL_law_X6_keys : GoodIn wsL_law (wsV RL 89 RX6 yX6_keys wsX6_keys) := goodIn_app (goodIn_of _ (by decide +kernel)) ggL_law_X6_keys
set_option maxRecDepth 20000 in
theorem ggL_law_X5_odds : GoodIn wsL_law wsX5_odds := goodIn_r _ [557, 558, 15, 295, 296, 2, 297, 284, 285, 286, 268, 269, 270, 271, 85, 420, 421, 422, 14, 423, 124, 125, 127, 215, 216, 221, 222, 559, 560, 561, 711, 712, 713, 714, 715, 716, 717, 748, 749, 750, 751, 752, 753, 754] (by decide +kernel) (by decide +kernel)
set_option maxRecDepth 20000 in
theorem gL_law_X5_odds : GoodIn wsL_law (wsV RL 90 RX5 yX5_odds wsX5_odds) := goodIn_app (goodIn_of _ (by decide +kernel)) ggL_law_X5_odds
set_option maxRecDepth 20000 in
theorem ggL_law_X6_odds : GoodIn wsL_law wsX6_odds := goodIn_r _ [565, 142, 279, 145, 151, 381, 157, 158, 5, 159, 566, 567, 568, 569, 235, 236, 237, 242, 243, 244, 245, 147, 149, 570, 571, 572, 718, 719, 720, 721, 722, 723, 724, 725, 726, 727, 728, 729, 730, 731, 732, 733, 734, 735, 736, 737, 738, 739, 740, 741, 742, 743, 744, 745, 746, 747] (by decide +kernel) (by decide +kernel)
set_option maxRecDepth 20000 in
theorem gL_law_X6_odds : GoodIn wsL_law (wsV RL 94 RX6 yX6_odds wsX6_odds) := goodIn_app (goodIn_of _ (by decide +kernel)) ggL_law_X6_odds
set_option maxRecDepth 20000 in
theorem ggL_law_X5_sheet : GoodIn wsL_law wsX5_sheet := goodIn_r _ [576, 84, 29, 86, 87, 2, 88, 89, 90, 91, 105, 106, 107, 108, 577, 578, 579, 31, 580, 59, 581, 439, 440, 441, 582, 583, 584, 104, 58, 711, 712, 713, 714, 715, 716, 717, 766, 767, 768] (by decide +kernel) (by decide +kernel)
set_option maxRecDepth 20000 in
theorem gL_law_X5_sheet : GoodIn wsL_law (wsV RL 95 RX5 yX5_sheet wsX5_sheet) := goodIn_app (goodIn_of _ (by decide +kernel)) ggL_law_X5_sheet
set_option maxRecDepth 20000 in
theorem ggL_law_X6_sheet : GoodIn wsL_law wsX6_sheet := goodIn_r _ [588, 142, 76, 77, 78, 153, 154, 5, 155, 156, 157, 158, 159, 160, 161, 162, 163, 164, 169, 170, 171, 172, 718, 719, 720, 721, 722, 723, 724, 725, 726, 727, 728, 729, 730, 731, 732, 733, 734, 735, 736, 737, 738, 739, 740, 741, 742, 743, 744, 745, 746, 747] (by decide +kernel) (by decide +kernel)
set_option maxRecDepth 20000 in
theorem gL_law_X6_sheet : GoodIn wsL_law (wsV RL 99 RX6 yX6_sheet wsX6_sheet) := goodIn_app (goodIn_of _ (by decide +kernel)) ggL_law_X6_sheet
set_option maxRecDepth 20000 in
theorem ggL_law_X5_lose : GoodIn wsL_law wsX5_lose := goodIn_r _ [592, 29, 86, 87, 2, 88, 593, 97, 98, 31, 99, 59, 594, 595, 596, 597, 104, 711, 712, 713, 714, 715, 716, 717, 766, 767, 768] (by decide +kernel) (by decide +kernel)
set_option maxRecDepth 20000 in
theorem gL_law_X5_lose : GoodIn wsL_law (wsV RL 100 RX5 yX5_lose wsX5_lose) := goodIn_app (goodIn_of _ (by decide +kernel)) ggL_law_X5_lose
set_option maxRecDepth 20000 in
theorem ggL_law_X6_lose : GoodIn wsL_law wsX6_lose := goodIn_r _ [601, 76, 153, 154, 5, 155, 156, 157, 158, 159, 718, 719, 720, 721, 722, 723, 724, 725, 726, 727, 728, 729, 730, 731, 732, 733, 734, 735, 736, 737, 738, 739, 740, 741, 742, 743, 744, 745, 746, 747] (by decide +kernel) (by decide +kernel)
set_option maxRecDepth 20000 in
theorem gL_law_X6_lose : GoodIn wsL_law (wsV RL 103 RX6 yX6_lose wsX6_lose) := goodIn_app (goodIn_of _ (by decide +kernel)) ggL_law_X6_lose
set_option maxRecDepth 20000 in
theorem ggL_law_X5_put : GoodIn wsL_law wsX5_put := goodIn_r _ [605, 84, 29, 86, 87, 2, 88, 593, 97, 98, 31, 99, 59, 105, 106, 107, 108, 100, 101, 102, 103, 104, 606, 607, 608, 609, 58, 116, 711, 712, 713, 714, 715, 716, 717, 766, 767, 768] (by decide +kernel) (by decide +kernel)
set_option maxRecDepth 20000 in
theorem gL_law_X5_put : GoodIn wsL_law (wsV RL 104 RX5 yX5_put wsX5_put) := goodIn_app (goodIn_of _ (by decide +kernel)) ggL_law_X5_put
set_option maxRecDepth 20000 in
theorem ggL_law_X6_put : GoodIn wsL_law wsX6_put := goodIn_r _ [613, 78, 77, 153, 154, 5, 155, 156, 157, 158, 159, 160, 161, 162, 163, 164, 614, 615, 616, 617, 76, 169, 170, 171, 172, 718, 719, 720, 721, 722, 723, 724, 725, 726, 727, 728, 729, 730, 731, 732, 733, 734, 735, 736, 737, 738, 739, 740, 741, 742, 743, 744, 745, 746, 747] (by decide +kernel) (by decide +kernel)
set_option maxRecDepth 20000 in
theorem gL_law_X6_put : GoodIn wsL_law (wsV RL 107 RX6 yX6_put wsX6_put) := goodIn_app (goodIn_of _ (by decide +kernel)) ggL_law_X6_put
set_option maxRecDepth 20000 in
theorem ggL_law_X5_cell : GoodIn wsL_law wsX5_cell := goodIn_r _ [621, 84, 558, 29, 86, 87, 2, 88, 89, 90, 91, 335, 336, 337, 31, 338, 339, 93, 94, 95, 59, 96, 97, 98, 99, 116, 101, 102, 103, 104, 112, 113, 114, 115, 58, 711, 712, 713, 714, 715, 716, 717, 766, 767, 768] (by decide +kernel) (by decide +kernel)
set_option maxRecDepth 20000 in
theorem gL_law_X5_cell : GoodIn wsL_law (wsV RL 108 RX5 yX5_cell wsX5_cell) := goodIn_app (goodIn_of _ (by decide +kernel)) ggL_law_X5_cell
set_option maxRecDepth 20000 in
theorem ggL_law_X6_cell : GoodIn wsL_law wsX6_cell := goodIn_r _ [625, 164, 142, 76, 77, 78, 153, 154, 5, 155, 156, 157, 158, 159, 566, 567, 568, 569, 626, 627, 628, 629, 614, 615, 616, 617, 718, 719, 720, 721, 722, 723, 724, 725, 726, 727, 728, 729, 730, 731, 732, 733, 734, 735, 736, 737, 738, 739, 740, 741, 742, 743, 744, 745, 746, 747] (by decide +kernel) (by decide +kernel)
set_option maxRecDepth 20000 in
theorem gL_law_X6_cell : GoodIn wsL_law (wsV RL 111 RX6 yX6_cell wsX6_cell) := goodIn_app (goodIn_of _ (by decide +kernel)) ggL_law_X6_cell
set_option maxRecDepth 20000 in
theorem ggL_law_X5_copy : GoodIn wsL_law wsX5_copy := goodIn_r _ [633, 84, 29, 634, 635, 636, 354, 355, 356, 86, 87, 2, 88, 593, 97, 98, 31, 99, 59, 105, 106, 107, 108, 100, 101, 102, 103, 104, 711, 712, 713, 714, 715, 716, 717, 766, 767, 768] (by decide +kernel) (by decide +kernel)
set_option maxRecDepth 20000 in
theorem gL_law_X5_copy : GoodIn wsL_law (wsV RL 112 RX5 yX5_copy wsX5_copy) := goodIn_app (goodIn_of _ (by decide +kernel)) ggL_law_X5_copy
set_option maxRecDepth 20000 in
theorem ggL_law_X6_copy : GoodIn wsL_law wsX6_copy := goodIn_r _ [640, 76, 77, 79, 78, 153, 154, 5, 155, 156, 157, 158, 159, 160, 161, 162, 163, 164, 169, 170, 171, 172, 173, 174, 175, 718, 719, 720, 721, 722, 723, 724, 725, 726, 727, 728, 729, 730, 731, 732, 733, 734, 735, 736, 737, 738, 739, 740, 741, 742, 743, 744, 745, 746, 747] (by decide +kernel) (by decide +kernel)
set_option maxRecDepth 20000 in
theorem gL_law_X6_copy : GoodIn wsL_law (wsV RL 115 RX6 yX6_copy wsX6_copy) := goodIn_app (goodIn_of _ (by decide +kernel)) ggL_law_X6_copy
set_option maxRecDepth 20000 in
theorem ggL_law_X5_tell : GoodIn wsL_law wsX5_tell := goodIn_r _ [644, 15, 197, 198, 199, 14, 200, 126, 206, 207, 208, 209, 37, 205, 201, 202, 203, 204, 36, 645, 646, 647, 2, 648, 649, 650, 651, 652, 653, 654, 655, 656, 657, 658, 659, 660, 661, 711, 712, 713, 714, 715, 716, 717, 748, 749, 750, 751, 752, 753, 754] (by decide +kernel) (by decide +kernel)
set_option maxRecDepth 20000 in
theorem gL_law_X5_tell : GoodIn wsL_law (wsV RL 116 RX5 yX5_tell wsX5_tell) := goodIn_app (goodIn_of _ (by decide +kernel)) ggL_law_X5_tell
set_option maxRecDepth 20000 in
theorem ggL_law_X6_tell : GoodIn wsL_law wsX6_tell := goodIn_r _ [665, 64, 65, 227, 228, 229, 5, 230, 145, 157, 158, 159, 666, 667, 668, 669, 670, 718, 719, 720, 721, 722, 723, 724, 725, 726, 727, 728, 729, 730, 731, 732, 733, 734, 735, 736, 737, 738, 739, 740, 741, 742, 743, 744, 745, 746, 747] (by decide +kernel) (by decide +kernel)
set_option maxRecDepth 20000 in
theorem gL_law_X6_tell : GoodIn wsL_law (wsV RL 119 RX6 yX6_tell wsX6_tell) := goodIn_app (goodIn_of _ (by decide +kernel)) ggL_law_X6_tell
set_option maxRecDepth 20000 in
theorem ggL_law_X5_splash : GoodIn wsL_law wsX5_splash := goodIn_r _ [674, 15, 197, 198, 199, 14, 200, 126, 201, 202, 203, 204, 36, 205, 649, 650, 651, 2, 652, 653, 711, 712, 713, 714, 715, 716, 717, 748, 749, 750, 751, 752, 753, 754] (by decide +kernel) (by decide +kernel)
set_option maxRecDepth 20000 in
theorem gL_law_X5_splash : GoodIn wsL_law (wsV RL 120 RX5 yX5_splash wsX5_splash) := goodIn_app (goodIn_of _ (by decide +kernel)) ggL_law_X5_splash
set_option maxRecDepth 20000 in
theorem ggL_law_X6_splash : GoodIn wsL_law wsX6_splash := goodIn_r _ [678, 64, 227, 228, 229, 5, 230, 145, 157, 158, 159, 666, 667, 668, 669, 670, 718, 719, 720, 721, 722, 723, 724, 725, 726, 727, 728, 729, 730, 731, 732, 733, 734, 735, 736, 737, 738, 739, 740, 741, 742, 743, 744, 745, 746, 747] (by decide +kernel) (by decide +kernel)
set_option maxRecDepth 20000 in
theorem gL_law_X6_splash : GoodIn wsL_law (wsV RL 123 RX6 yX6_splash wsX6_splash) := goodIn_app (goodIn_of _ (by decide +kernel)) ggL_law_X6_splash
set_option maxRecDepth 20000 in
theorem ggL_law_X5_as : GoodIn wsL_law wsX5_as := goodIn_r _ [682, 84, 15, 197, 198, 199, 14, 200, 126, 295, 296, 2, 297, 201, 202, 203, 204, 36, 205, 105, 106, 107, 108, 711, 712, 713, 714, 715, 716, 717, 748, 749, 750, 751, 752, 753, 754] (by decide +kernel) (by decide +kernel)
set_option maxRecDepth 20000 in
theorem gL_law_X5_as : GoodIn wsL_law (wsV RL 124 RX5 yX5_as wsX5_as) := goodIn_app (goodIn_of _ (by decide +kernel)) ggL_law_X5_as
set_option maxRecDepth 20000 in
theorem ggL_law_X6_as : GoodIn wsL_law wsX6_as := goodIn_r _ [686, 142, 64, 227, 228, 229, 5, 230, 145, 157, 158, 159, 160, 161, 162, 163, 164, 169, 170, 171, 172, 718, 719, 720, 721, 722, 723, 724, 725, 726, 727, 728, 729, 730, 731, 732, 733, 734, 735, 736, 737, 738, 739, 740, 741, 742, 743, 744, 745, 746, 747] (by decide +kernel) (by decide +kernel)
set_option maxRecDepth 20000 in
theorem gL_law_X6_as : GoodIn wsL_law (wsV RL 127 RX6 yX6_as wsX6_as) := goodIn_app (goodIn_of _ (by decide +kernel)) ggL_law_X6_as
set_option maxRecDepth 20000 in
theorem ggL_law_X5_trace : GoodIn wsL_law wsX5_trace := goodIn_r _ [690, 653, 711, 712, 713, 714, 715, 716, 717] (by decide +kernel) (by decide +kernel)
set_option maxRecDepth 20000 in
theorem gL_law_X5_trace : GoodIn wsL_law (wsV RL 128 RX5 yX5_trace wsX5_trace) := goodIn_app (goodIn_of _ (by decide +kernel)) ggL_law_X5_trace
set_option maxRecDepth 20000 in
theorem ggL_law_X6_trace : GoodIn wsL_law wsX6_trace := goodIn_r _ [694, 670, 718, 719, 720, 721, 722, 723, 724, 725, 726, 727, 728, 729, 730, 731, 732, 733, 734, 735, 736, 737, 738, 739, 740, 741, 742, 743, 744, 745, 746, 747] (by decide +kernel) (by decide +kernel)
set_option maxRecDepth 20000 in
theorem gL_law_X6_trace : GoodIn wsL_law (wsV RL 131 RX6 yX6_trace wsX6_trace) := goodIn_app (goodIn_of _ (by decide +kernel)) ggL_law_X6_trace
set_option maxRecDepth 20000 in
theorem ggL_law_X5_fault : GoodIn wsL_law wsX5_fault := goodIn_r _ [698, 84, 711, 712, 713, 714, 715, 716, 717] (by decide +kernel) (by decide +kernel)
set_option maxRecDepth 20000 in
theorem gL_law_X5_fault : GoodIn wsL_law (wsV RL 132 RX5 yX5_fault wsX5_fault) := goodIn_app (goodIn_of _ (by decide +kernel)) ggL_law_X5_fault
set_option maxRecDepth 20000 in
theorem ggL_law_X6_fault : GoodIn wsL_law wsX6_fault := goodIn_r _ [702, 164, 718, 719, 720, 721, 722, 723, 724, 725, 726, 727, 728, 729, 730, 731, 732, 733, 734, 735, 736, 737, 738, 739, 740, 741, 742, 743, 744, 745, 746, 747] (by decide +kernel) (by decide +kernel)
set_option maxRecDepth 20000 in
theorem gL_law_X6_fault : GoodIn wsL_law (wsV RL 135 RX6 yX6_fault wsX6_fault) := goodIn_app (goodIn_of _ (by decide +kernel)) ggL_law_X6_fault
set_option maxRecDepth 20000 in
theorem ggL_law_X5_many : GoodIn wsL_law wsX5_many := goodIn_r _ [706, 15, 85, 266, 267, 196, 19, 497, 711, 712, 713, 714, 715, 716, 717, 748, 749, 750, 751, 752, 753, 754, 755, 756, 757] (by decide +kernel) (by decide +kernel)
set_option maxRecDepth 20000 in
theorem gL_law_X5_many : GoodIn wsL_law (wsV RL 136 RX5 yX5_many wsX5_many) := goodIn_app (goodIn_of _ (by decide +kernel)) ggL_law_X5_many
set_option maxRecDepth 20000 in
theorem ggL_law_X6_many : GoodIn wsL_law wsX6_many := goodIn_r _ [710, 145, 147, 149, 151, 152, 718, 719, 720, 721, 722, 723, 724, 725, 726, 727, 728, 729, 730, 731, 732, 733, 734, 735, 736, 737, 738, 739, 740, 741, 742, 743, 744, 745, 746, 747] (by decide +kernel) (by decide +kernel)
set_option maxRecDepth 20000 in
theorem gL_law_X6_many : GoodIn wsL_law (wsV RL 139 RX6 yX6_many wsX6_many) := goodIn_app (goodIn_of _ (by decide +kernel)) ggL_law_X6_many

