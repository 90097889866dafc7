set_option maxRecDepth 20000 in
theorem ggL_law_X3_init : GoodIn wsL_law wsX3_init := goodIn_r _ [8, 9, 10, 11, 12, 13, 14, 15, 16, 17, 18, 19, 20, 21, 22, 23, 24, 25, 26, 27, 28, 29, 30, 31, 32, 33, 34, 35, 36, 37, 38, 39, 40, 41, 42, 43, 44, 45, 46, 47, 48, 724, 725, 726, 727, 728, 729, 730, 731, 732, 733, 734, 705, 706, 707, 708, 709, 710, 711, 735, 736, 737, 738, 739, 740] (by decide +kernel) (by decide +kernel)
set_option maxRecDepth 20000 in
theorem gL_law_X3_init : GoodIn wsL_law (wsX3_init) := ggL_law_X3_init
set_option maxRecDepth 20000 in
theorem ggL_law_X4_init : GoodIn wsL_law wsX4_init := goodIn_r _ [51, 52, 10, 11, 29, 53, 54, 55, 56, 57, 58, 59, 60, 61, 62, 63, 5, 64, 712, 713, 714, 715, 716, 717, 718, 719, 720, 721, 722, 723] (by decide +kernel) (by decide +kernel)
set_option maxRecDepth 20000 in
theorem gL_law_X4_init : GoodIn wsL_law (wsX4_init) := ggL_law_X4_init
set_option maxRecDepth 20000 in
theorem ggL_law_X3_setRow : GoodIn wsL_law wsX3_setRow := goodIn_r _ [68, 23, 15, 69, 19, 70, 71, 72, 2, 73, 74, 75, 76, 22, 77, 78, 48, 79, 80, 81, 82, 83, 84, 85, 24, 86, 87, 88, 14, 89, 30, 90, 91, 92, 93, 34, 35, 31, 33, 94, 36, 37, 38, 95, 96, 97, 98, 99, 100, 101, 102, 103, 104, 105, 106, 107, 18, 108, 109, 110, 111, 112, 113, 114, 115, 116, 117, 42, 43, 44, 705, 706, 707, 708, 709, 710, 711, 724, 725, 726, 727, 728, 729, 730, 731, 732, 733, 734, 735, 736, 737, 738, 739, 740] (by decide +kernel) (by decide +kernel)
set_option maxRecDepth 20000 in
theorem gL_law_X3_setRow : GoodIn wsL_law (wsV RL 13 RX3 yX3_setRow wsX3_setRow) := goodIn_app (goodIn_of _ (by decide +kernel)) ggL_law_X3_setRow
set_option maxRecDepth 20000 in
theorem ggL_law_X4_setRow : GoodIn wsL_law wsX4_setRow := goodIn_r _ [121, 122, 53, 123, 60, 124, 125, 126, 5, 127, 128, 129, 130, 131, 132, 133, 134, 135, 136, 137, 138, 139, 140, 141, 54, 61, 62, 63, 64, 142, 143, 144, 145, 146, 147, 148, 149, 57, 58, 59, 150, 151, 152, 153, 154, 55, 712, 713, 714, 715, 716, 717, 718, 719, 720, 721, 722, 723] (by decide +kernel) (by decide +kernel)
set_option maxRecDepth 20000 in
theorem gL_law_X4_setRow : GoodIn wsL_law (wsV RL 17 RX4 yX4_setRow wsX4_setRow) := goodIn_app (goodIn_of _ (by decide +kernel)) ggL_law_X4_setRow
set_option maxRecDepth 20000 in
theorem ggL_law_X3_setKey : GoodIn wsL_law wsX3_setKey := goodIn_r _ [158, 15, 159, 160, 161, 162, 2, 163, 81, 82, 83, 84, 85, 24, 86, 87, 88, 14, 89, 30, 90, 91, 92, 93, 34, 35, 31, 33, 94, 36, 37, 38, 95, 96, 101, 102, 103, 104, 164, 165, 166, 167, 705, 706, 707, 708, 709, 710, 711, 724, 725, 726, 727, 728, 729, 730, 731, 732, 733, 734] (by decide +kernel) (by decide +kernel)
set_option maxRecDepth 20000 in
theorem gL_law_X3_setKey : GoodIn wsL_law (wsV RL 18 RX3 yX3_setKey wsX3_setKey) := goodIn_app (goodIn_of _ (by decide +kernel)) ggL_law_X3_setKey
set_option maxRecDepth 20000 in
theorem ggL_law_X4_setKey : GoodIn wsL_law wsX4_setKey := goodIn_r _ [171, 172, 53, 125, 126, 5, 127, 138, 139, 140, 141, 54, 61, 62, 63, 64, 173, 174, 175, 176, 150, 151, 152, 153, 154, 55, 712, 713, 714, 715, 716, 717, 718, 719, 720, 721, 722, 723] (by decide +kernel) (by decide +kernel)
set_option maxRecDepth 20000 in
theorem gL_law_X4_setKey : GoodIn wsL_law (wsV RL 22 RX4 yX4_setKey wsX4_setKey) := goodIn_app (goodIn_of _ (by decide +kernel)) ggL_law_X4_setKey
set_option maxRecDepth 20000 in
theorem ggL_law_X3_addWords : GoodIn wsL_law wsX3_addWords := goodIn_r _ [180, 23, 15, 181, 182, 183, 184, 185, 22, 186, 78, 48, 79, 2, 80, 187, 188, 189, 190, 191, 192, 193, 194, 195, 196, 197, 198, 199, 200, 201, 202, 203, 204, 205, 206, 207, 208, 209, 210, 211, 14, 212, 34, 213, 214, 215, 216, 217, 218, 219, 220, 221, 222, 81, 82, 83, 84, 85, 24, 86, 87, 88, 89, 30, 90, 91, 92, 93, 35, 31, 33, 94, 36, 37, 38, 95, 96, 223, 224, 225, 226, 227, 705, 706, 707, 708, 709, 710, 711, 724, 725, 726, 727, 728, 729, 730, 731, 732, 733, 734, 739, 740] (by decide +kernel) (by decide +kernel)
set_option maxRecDepth 20000 in
theorem gL_law_X3_addWords : GoodIn wsL_law (wsV RL 23 RX3 yX3_addWords wsX3_addWords) := goodIn_app (goodIn_of _ (by decide +kernel)) ggL_law_X3_addWords
set_option maxRecDepth 20000 in
theorem ggL_law_X4_addWords : GoodIn wsL_law wsX4_addWords := goodIn_r _ [231, 53, 54, 232, 233, 234, 5, 235, 123, 60, 132, 133, 134, 135, 136, 137, 125, 126, 127, 138, 139, 140, 141, 236, 237, 238, 239, 240, 241, 242, 243, 244, 245, 246, 247, 248, 249, 250, 251, 150, 151, 152, 153, 154, 55, 712, 713, 714, 715, 716, 717, 718, 719, 720, 721, 722, 723] (by decide +kernel) (by decide +kernel)
set_option maxRecDepth 20000 in
theorem gL_law_X4_addWords : GoodIn wsL_law (wsV RL 27 RX4 yX4_addWords wsX4_addWords) := goodIn_app (goodIn_of _ (by decide +kernel)) ggL_law_X4_addWords
set_option maxRecDepth 20000 in
theorem ggL_law_X3_dropWord : GoodIn wsL_law wsX3_dropWord := goodIn_r _ [255, 15, 181, 256, 257, 258, 2, 259, 81, 82, 83, 84, 85, 24, 86, 87, 88, 14, 89, 30, 90, 91, 92, 93, 34, 35, 31, 33, 94, 36, 37, 38, 95, 96, 260, 261, 262, 263, 705, 706, 707, 708, 709, 710, 711, 724, 725, 726, 727, 728, 729, 730, 731, 732, 733, 734] (by decide +kernel) (by decide +kernel)
set_option maxRecDepth 20000 in
theorem gL_law_X3_dropWord : GoodIn wsL_law (wsV RL 28 RX3 yX3_dropWord wsX3_dropWord) := goodIn_app (goodIn_of _ (by decide +kernel)) ggL_law_X3_dropWord
set_option maxRecDepth 20000 in
theorem ggL_law_X4_dropWord : GoodIn wsL_law wsX4_dropWord := goodIn_r _ [267, 53, 268, 269, 270, 5, 271, 125, 126, 127, 138, 139, 140, 141, 54, 150, 151, 152, 153, 154, 55, 712, 713, 714, 715, 716, 717, 718, 719, 720, 721, 722, 723] (by decide +kernel) (by decide +kernel)
set_option maxRecDepth 20000 in
theorem gL_law_X4_dropWord : GoodIn wsL_law (wsV RL 31 RX4 yX4_dropWord wsX4_dropWord) := goodIn_app (goodIn_of _ (by decide +kernel)) ggL_law_X4_dropWord
set_option maxRecDepth 20000 in
theorem ggL_law_X3_guess : GoodIn wsL_law wsX3_guess := goodIn_r _ [275, 15, 276, 277, 278, 279, 2, 280, 281, 79, 80, 282, 283, 284, 285, 286, 287, 288, 14, 289, 31, 81, 82, 83, 84, 85, 24, 86, 87, 88, 89, 30, 90, 91, 92, 93, 34, 35, 33, 94, 36, 37, 38, 95, 96, 290, 291, 292, 293, 294, 295, 296, 297, 298, 299, 300, 301, 302, 165, 166, 167, 705, 706, 707, 708, 709, 710, 711, 724, 725, 726, 727, 728, 729, 730, 731, 732, 733, 734] (by decide +kernel) (by decide +kernel)
set_option maxRecDepth 20000 in
theorem gL_law_X3_guess : GoodIn wsL_law (wsV RL 32 RX3 yX3_guess wsX3_guess) := goodIn_app (goodIn_of _ (by decide +kernel)) ggL_law_X3_guess
set_option maxRecDepth 20000 in
theorem ggL_law_X4_guess : GoodIn wsL_law wsX4_guess := goodIn_r _ [306, 136, 137, 53, 307, 308, 5, 309, 310, 125, 126, 127, 311, 312, 313, 314, 138, 139, 140, 141, 54, 315, 316, 317, 318, 319, 320, 321, 322, 323, 324, 325, 326, 173, 174, 175, 176, 150, 151, 152, 153, 154, 55, 712, 713, 714, 715, 716, 717, 718, 719, 720, 721, 722, 723] (by decide +kernel) (by decide +kernel)
set_option maxRecDepth 20000 in
theorem gL_law_X4_guess : GoodIn wsL_law (wsV RL 36 RX4 yX4_guess wsX4_guess) := goodIn_app (goodIn_of _ (by decide +kernel)) ggL_law_X4_guess
set_option maxRecDepth 20000 in
theorem ggL_law_X3_guessWord : GoodIn wsL_law wsX3_guessWord := goodIn_r _ [330, 19, 331, 15, 277, 332, 333, 334, 2, 335, 70, 256, 257, 258, 259, 181, 336, 337, 338, 339, 203, 209, 210, 211, 14, 212, 34, 340, 341, 342, 343, 344, 345, 346, 18, 347, 42, 44, 348, 299, 300, 301, 30, 302, 165, 166, 167, 36, 37, 349, 350, 351, 352, 286, 287, 288, 289, 31, 353, 354, 355, 356, 278, 279, 280, 357, 358, 359, 360, 69, 361, 362, 363, 364, 365, 295, 296, 297, 298, 81, 82, 83, 84, 85, 24, 86, 87, 88, 89, 90, 91, 92, 93, 35, 33, 94, 38, 95, 96, 705, 706, 707, 708, 709, 710, 711, 735, 736, 737, 738, 724, 725, 726, 727, 728, 729, 730, 731, 732, 733, 734] (by decide +kernel) (by decide +kernel)
set_option maxRecDepth 20000 in
theorem gL_law_X3_guessWord : GoodIn wsL_law (wsV RL 37 RX3 yX3_guessWord wsX3_guessWord) := goodIn_app (goodIn_of _ (by decide +kernel)) ggL_law_X3_guessWord
set_option maxRecDepth 20000 in
theorem ggL_law_X4_guessWord : GoodIn wsL_law wsX4_guessWord := goodIn_r _ [369, 58, 53, 370, 371, 372, 5, 373, 124, 142, 143, 144, 145, 146, 147, 148, 149, 57, 59, 125, 126, 127, 268, 269, 270, 271, 374, 375, 376, 377, 244, 245, 246, 247, 378, 379, 380, 381, 382, 383, 384, 385, 323, 324, 325, 326, 173, 174, 175, 176, 248, 249, 250, 251, 311, 312, 313, 314, 138, 139, 140, 141, 54, 150, 151, 152, 153, 154, 55, 712, 713, 714, 715, 716, 717, 718, 719, 720, 721, 722, 723] (by decide +kernel) (by decide +kernel)
set_option maxRecDepth 20000 in
theorem gL_law_X4_guessWord : GoodIn wsL_law (wsV RL 40 RX4 yX4_guessWord wsX4_guessWord) := goodIn_app (goodIn_of _ (by decide +kernel)) ggL_law_X4_guessWord
set_option maxRecDepth 20000 in
theorem ggL_law_X3_buy : GoodIn wsL_law wsX3_buy := goodIn_r _ [389, 15, 276, 390, 277, 391, 278, 279, 2, 280, 392, 393, 394, 14, 395, 396, 397, 398, 399, 400, 401, 402, 403, 298, 299, 300, 301, 30, 302, 165, 166, 167, 36, 37, 404, 81, 82, 83, 84, 85, 24, 86, 87, 88, 89, 90, 91, 92, 93, 34, 35, 31, 33, 94, 38, 95, 96, 405, 406, 407, 408, 286, 287, 288, 289, 705, 706, 707, 708, 709, 710, 711, 724, 725, 726, 727, 728, 729, 730, 731, 732, 733, 734] (by decide +kernel) (by decide +kernel)
set_option maxRecDepth 20000 in
theorem gL_law_X3_buy : GoodIn wsL_law (wsV RL 41 RX3 yX3_buy wsX3_buy) := goodIn_app (goodIn_of _ (by decide +kernel)) ggL_law_X3_buy
set_option maxRecDepth 20000 in
theorem ggL_law_X4_buy : GoodIn wsL_law wsX4_buy := goodIn_r _ [412, 53, 307, 308, 5, 309, 310, 125, 126, 127, 413, 414, 415, 416, 417, 418, 419, 420, 323, 324, 325, 326, 173, 174, 175, 176, 138, 139, 140, 141, 54, 421, 422, 423, 424, 150, 151, 152, 153, 154, 55, 712, 713, 714, 715, 716, 717, 718, 719, 720, 721, 722, 723] (by decide +kernel) (by decide +kernel)
set_option maxRecDepth 20000 in
theorem gL_law_X4_buy : GoodIn wsL_law (wsV RL 44 RX4 yX4_buy wsX4_buy) := goodIn_app (goodIn_of _ (by decide +kernel)) ggL_law_X4_buy
set_option maxRecDepth 20000 in
theorem ggL_law_X3_check : GoodIn wsL_law wsX3_check := goodIn_r _ [428, 15, 390, 429, 19, 331, 69, 332, 333, 334, 2, 335, 70, 81, 82, 83, 84, 85, 24, 86, 87, 88, 14, 89, 30, 90, 91, 92, 93, 34, 35, 31, 33, 94, 36, 37, 38, 95, 96, 344, 345, 346, 18, 347, 42, 44, 365, 295, 296, 297, 298, 299, 300, 301, 302, 165, 166, 167, 279, 280, 705, 706, 707, 708, 709, 710, 711, 724, 725, 726, 727, 728, 729, 730, 731, 732, 733, 734, 735, 736, 737, 738] (by decide +kernel) (by decide +kernel)
set_option maxRecDepth 20000 in
theorem gL_law_X3_check : GoodIn wsL_law (wsV RL 45 RX3 yX3_check wsX3_check) := goodIn_app (goodIn_of _ (by decide +kernel)) ggL_law_X3_check
set_option maxRecDepth 20000 in
theorem ggL_law_X4_check : GoodIn wsL_law wsX4_check := goodIn_r _ [433, 53, 58, 370, 371, 372, 5, 373, 124, 142, 143, 144, 145, 146, 147, 148, 149, 57, 59, 125, 126, 127, 138, 139, 140, 141, 54, 382, 383, 384, 385, 319, 320, 321, 322, 323, 324, 325, 326, 173, 174, 175, 176, 150, 151, 152, 153, 154, 55, 712, 713, 714, 715, 716, 717, 718, 719, 720, 721, 722, 723] (by decide +kernel) (by decide +kernel)
set_option maxRecDepth 20000 in
theorem gL_law_X4_check : GoodIn wsL_law (wsV RL 48 RX4 yX4_check wsX4_check) := goodIn_app (goodIn_of _ (by decide +kernel)) ggL_law_X4_check
set_option maxRecDepth 20000 in
theorem ggL_law_X3_give : GoodIn wsL_law wsX3_give := goodIn_r _ [437, 15, 390, 438, 397, 398, 399, 81, 82, 83, 2, 84, 85, 24, 86, 87, 88, 14, 89, 30, 90, 91, 92, 93, 34, 35, 31, 33, 94, 36, 37, 38, 95, 96, 705, 706, 707, 708, 709, 710, 711, 724, 725, 726, 727, 728, 729, 730, 731, 732, 733, 734] (by decide +kernel) (by decide +kernel)
set_option maxRecDepth 20000 in
theorem gL_law_X3_give : GoodIn wsL_law (wsV RL 49 RX3 yX3_give wsX3_give) := goodIn_app (goodIn_of _ (by decide +kernel)) ggL_law_X3_give
set_option maxRecDepth 20000 in
theorem ggL_law_X4_give : GoodIn wsL_law wsX4_give := goodIn_r _ [442, 443, 53, 125, 126, 5, 127, 138, 139, 140, 141, 54, 150, 151, 152, 153, 154, 55, 712, 713, 714, 715, 716, 717, 718, 719, 720, 721, 722, 723] (by decide +kernel) (by decide +kernel)
set_option maxRecDepth 20000 in
theorem gL_law_X4_give : GoodIn wsL_law (wsV RL 52 RX4 yX4_give wsX4_give) := goodIn_app (goodIn_of _ (by decide +kernel)) ggL_law_X4_give
set_option maxRecDepth 20000 in
theorem ggL_law_X3_type : GoodIn wsL_law wsX3_type := goodIn_r _ [447, 23, 182, 448, 449, 450, 22, 451, 48, 78, 705, 706, 707, 708, 709, 710, 711, 739, 740] (by decide +kernel) (by decide +kernel)
set_option maxRecDepth 20000 in
theorem gL_law_X3_type : GoodIn wsL_law (wsV RL 53 RX3 yX3_type wsX3_type) := goodIn_app (goodIn_of _ (by decide +kernel)) ggL_law_X3_type
set_option maxRecDepth 20000 in
theorem ggL_law_X4_type : GoodIn wsL_law wsX4_type := goodIn_r _ [455, 123, 60, 712, 713, 714, 715, 716, 717, 718, 719, 720, 721, 722, 723] (by decide +kernel) (by decide +kernel)
set_option maxRecDepth 20000 in
theorem gL_law_X4_type : GoodIn wsL_law (wsV RL 57 RX4 yX4_type wsX4_type) := goodIn_app (goodIn_of _ (by decide +kernel)) ggL_law_X4_type
