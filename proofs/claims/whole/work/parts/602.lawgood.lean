set_option maxRecDepth 20000 in
theorem ggL_law_X3_clearText : GoodIn wsL_law wsX3_clearText := goodIn_r _ [459, 23, 182, 705, 706, 707, 708, 709, 710, 711, 739, 740] (by decide +kernel) (by decide +kernel)
set_option maxRecDepth 20000 in
theorem gL_law_X3_clearText : GoodIn wsL_law (wsV RL 58 RX3 yX3_clearText wsX3_clearText) := goodIn_app (goodIn_of _ (by decide +kernel)) ggL_law_X3_clearText
set_option maxRecDepth 20000 in
theorem ggL_law_X4_clearText : GoodIn wsL_law wsX4_clearText := goodIn_r _ [463, 123, 712, 713, 714, 715, 716, 717, 718, 719, 720, 721, 722, 723] (by decide +kernel) (by decide +kernel)
set_option maxRecDepth 20000 in
theorem gL_law_X4_clearText : GoodIn wsL_law (wsV RL 61 RX4 yX4_clearText wsX4_clearText) := goodIn_app (goodIn_of _ (by decide +kernel)) ggL_law_X4_clearText
set_option maxRecDepth 20000 in
theorem ggL_law_X3_undo : GoodIn wsL_law wsX3_undo := goodIn_r _ [467, 85, 24, 468, 469, 470, 2, 471, 15, 19, 69, 86, 87, 88, 14, 89, 30, 90, 91, 92, 93, 34, 35, 31, 33, 94, 36, 37, 38, 95, 96, 105, 106, 107, 18, 108, 109, 110, 111, 112, 113, 114, 115, 116, 117, 42, 43, 44, 705, 706, 707, 708, 709, 710, 711, 724, 725, 726, 727, 728, 729, 730, 731, 732, 733, 734, 735, 736, 737, 738] (by decide +kernel) (by decide +kernel)
set_option maxRecDepth 20000 in
theorem gL_law_X3_undo : GoodIn wsL_law (wsV RL 62 RX3 yX3_undo wsX3_undo) := goodIn_app (goodIn_of _ (by decide +kernel)) ggL_law_X3_undo
set_option maxRecDepth 20000 in
theorem ggL_law_X4_undo : GoodIn wsL_law wsX4_undo := goodIn_r _ [475, 154, 53, 55, 712, 713, 714, 715, 716, 717, 718, 719, 720, 721, 722, 723] (by decide +kernel) (by decide +kernel)
set_option maxRecDepth 20000 in
theorem gL_law_X4_undo : GoodIn wsL_law (wsV RL 65 RX4 yX4_undo wsX4_undo) := goodIn_app (goodIn_of _ (by decide +kernel)) ggL_law_X4_undo
set_option maxRecDepth 20000 in
theorem ggL_law_X3_keep : GoodIn wsL_law wsX3_keep := goodIn_r _ [479, 25, 15, 480, 390, 86, 87, 88, 14, 89, 30, 90, 91, 92, 93, 34, 35, 31, 33, 94, 36, 37, 38, 95, 96, 705, 706, 707, 708, 709, 710, 711, 724, 725, 726, 727, 728, 729, 730, 731, 732, 733, 734] (by decide +kernel) (by decide +kernel)
set_option maxRecDepth 20000 in
theorem gL_law_X3_keep : GoodIn wsL_law (wsV RL 66 RX3 yX3_keep wsX3_keep) := goodIn_app (goodIn_of _ (by decide +kernel)) ggL_law_X3_keep
set_option maxRecDepth 20000 in
theorem ggL_law_X4_keep : GoodIn wsL_law wsX4_keep := goodIn_r _ [484, 56, 53, 485, 712, 713, 714, 715, 716, 717, 718, 719, 720, 721, 722, 723] (by decide +kernel) (by decide +kernel)
set_option maxRecDepth 20000 in
theorem gL_law_X4_keep : GoodIn wsL_law (wsV RL 69 RX4 yX4_keep wsX4_keep) := goodIn_app (goodIn_of _ (by decide +kernel)) ggL_law_X4_keep
set_option maxRecDepth 20000 in
theorem ggL_law_X3_restore : GoodIn wsL_law wsX3_restore := goodIn_r _ [489, 480, 25, 15, 390, 81, 82, 83, 2, 84, 85, 24, 86, 87, 88, 14, 89, 30, 90, 91, 92, 93, 34, 35, 31, 33, 94, 36, 37, 38, 95, 96, 468, 469, 470, 471, 19, 69, 105, 106, 107, 18, 108, 109, 110, 111, 112, 113, 114, 115, 116, 117, 42, 43, 44, 705, 706, 707, 708, 709, 710, 711, 724, 725, 726, 727, 728, 729, 730, 731, 732, 733, 734, 735, 736, 737, 738] (by decide +kernel) (by decide +kernel)
set_option maxRecDepth 20000 in
theorem gL_law_X3_restore : GoodIn wsL_law (wsV RL 70 RX3 yX3_restore wsX3_restore) := goodIn_app (goodIn_of _ (by decide +kernel)) ggL_law_X3_restore
set_option maxRecDepth 20000 in
theorem ggL_law_X4_restore : GoodIn wsL_law wsX4_restore := goodIn_r _ [493, 485, 53, 56, 138, 139, 140, 5, 141, 54, 150, 151, 152, 153, 154, 55, 712, 713, 714, 715, 716, 717, 718, 719, 720, 721, 722, 723] (by decide +kernel) (by decide +kernel)
set_option maxRecDepth 20000 in
theorem gL_law_X4_restore : GoodIn wsL_law (wsV RL 73 RX4 yX4_restore wsX4_restore) := goodIn_app (goodIn_of _ (by decide +kernel)) ggL_law_X4_restore
set_option maxRecDepth 20000 in
theorem ggL_law_X3_cell : GoodIn wsL_law wsX3_cell := goodIn_r _ [497, 15, 19, 71, 72, 2, 73, 348, 299, 300, 14, 301, 30, 302, 165, 166, 167, 36, 37, 498, 499, 500, 365, 295, 296, 297, 31, 298, 279, 280, 501, 502, 503, 18, 504, 109, 505, 506, 507, 508, 44, 509, 510, 511, 512, 43, 513, 345, 346, 347, 42, 705, 706, 707, 708, 709, 710, 711, 724, 725, 726, 727, 728, 729, 730, 731, 732, 733, 734, 735, 736, 737, 738] (by decide +kernel) (by decide +kernel)
set_option maxRecDepth 20000 in
theorem gL_law_X3_cell : GoodIn wsL_law (wsV RL 74 RX3 yX3_cell wsX3_cell) := goodIn_app (goodIn_of _ (by decide +kernel)) ggL_law_X3_cell
set_option maxRecDepth 20000 in
theorem ggL_law_X4_cell : GoodIn wsL_law wsX4_cell := goodIn_r _ [517, 122, 125, 126, 5, 127, 323, 324, 325, 326, 53, 173, 174, 175, 176, 319, 320, 321, 322, 518, 519, 520, 521, 522, 523, 524, 124, 58, 59, 142, 143, 144, 145, 146, 147, 148, 149, 57, 382, 383, 384, 385, 712, 713, 714, 715, 716, 717, 718, 719, 720, 721, 722, 723] (by decide +kernel) (by decide +kernel)
set_option maxRecDepth 20000 in
theorem gL_law_X4_cell : GoodIn wsL_law (wsV RL 78 RX4 yX4_cell wsX4_cell) := goodIn_app (goodIn_of _ (by decide +kernel)) ggL_law_X4_cell
set_option maxRecDepth 20000 in
theorem ggL_law_X3_number : GoodIn wsL_law wsX3_number := goodIn_r _ [528, 15, 277, 276, 278, 279, 2, 280, 404, 401, 402, 14, 403, 298, 299, 300, 301, 30, 302, 165, 166, 167, 36, 37, 498, 499, 500, 392, 393, 394, 395, 396, 397, 398, 399, 400, 529, 530, 531, 532, 533, 534, 535, 19, 70, 536, 537, 538, 539, 331, 540, 541, 542, 543, 340, 341, 342, 343, 344, 345, 346, 18, 347, 42, 44, 348, 705, 706, 707, 708, 709, 710, 711, 724, 725, 726, 727, 728, 729, 730, 731, 732, 733, 734, 735, 736, 737, 738] (by decide +kernel) (by decide +kernel)
set_option maxRecDepth 20000 in
theorem gL_law_X3_number : GoodIn wsL_law (wsV RL 79 RX3 yX3_number wsX3_number) := goodIn_app (goodIn_of _ (by decide +kernel)) ggL_law_X3_number
set_option maxRecDepth 20000 in
theorem ggL_law_X4_number : GoodIn wsL_law wsX4_number := goodIn_r _ [547, 53, 307, 308, 5, 309, 310, 125, 126, 127, 417, 418, 419, 420, 323, 324, 325, 326, 173, 174, 175, 176, 518, 519, 520, 413, 414, 415, 416, 548, 549, 550, 551, 124, 142, 143, 144, 145, 146, 147, 148, 149, 57, 58, 59, 552, 553, 554, 555, 382, 383, 384, 385, 712, 713, 714, 715, 716, 717, 718, 719, 720, 721, 722, 723] (by decide +kernel) (by decide +kernel)
set_option maxRecDepth 20000 in
theorem gL_law_X4_number : GoodIn wsL_law (wsV RL 82 RX4 yX4_number wsX4_number) := goodIn_app (goodIn_of _ (by decide +kernel)) ggL_law_X4_number
set_option maxRecDepth 20000 in
theorem ggL_law_X3_word : GoodIn wsL_law wsX3_word := goodIn_r _ [559, 19, 560, 331, 332, 333, 334, 2, 335, 70, 561, 506, 507, 18, 508, 44, 529, 530, 531, 361, 362, 363, 364, 15, 344, 345, 346, 347, 42, 365, 295, 296, 14, 297, 31, 298, 299, 300, 301, 30, 302, 165, 166, 167, 36, 37, 279, 280, 562, 563, 564, 565, 181, 336, 337, 338, 339, 203, 209, 210, 211, 212, 34, 340, 341, 342, 343, 348, 349, 350, 351, 352, 286, 287, 288, 289, 353, 354, 355, 356, 277, 278, 357, 358, 359, 360, 69, 566, 567, 568, 569, 705, 706, 707, 708, 709, 710, 711, 735, 736, 737, 738, 724, 725, 726, 727, 728, 729, 730, 731, 732, 733, 734] (by decide +kernel) (by decide +kernel)
set_option maxRecDepth 20000 in
theorem gL_law_X3_word : GoodIn wsL_law (wsV RL 83 RX3 yX3_word wsX3_word) := goodIn_app (goodIn_of _ (by decide +kernel)) ggL_law_X3_word
set_option maxRecDepth 20000 in
theorem ggL_law_X4_word : GoodIn wsL_law wsX4_word := goodIn_r _ [573, 57, 58, 59, 370, 371, 372, 5, 373, 124, 142, 143, 144, 145, 146, 147, 148, 149, 53, 125, 126, 127, 574, 575, 576, 577, 382, 383, 384, 385, 319, 320, 321, 322, 323, 324, 325, 326, 173, 174, 175, 176, 578, 579, 580, 581, 374, 375, 376, 377, 244, 245, 246, 247, 378, 379, 380, 381, 248, 249, 250, 251, 311, 312, 313, 314, 582, 583, 584, 585, 712, 713, 714, 715, 716, 717, 718, 719, 720, 721, 722, 723] (by decide +kernel) (by decide +kernel)
set_option maxRecDepth 20000 in
theorem gL_law_X4_word : GoodIn wsL_law (wsV RL 86 RX4 yX4_word wsX4_word) := goodIn_app (goodIn_of _ (by decide +kernel)) ggL_law_X4_word
set_option maxRecDepth 20000 in
theorem ggL_law_X3_fits : GoodIn wsL_law wsX3_fits := goodIn_r _ [589, 332, 333, 334, 2, 335, 19, 70, 256, 257, 258, 259, 15, 181, 336, 337, 338, 339, 331, 203, 209, 210, 211, 14, 212, 34, 340, 341, 342, 343, 344, 345, 346, 18, 347, 42, 44, 348, 299, 300, 301, 30, 302, 165, 166, 167, 36, 37, 349, 350, 351, 352, 286, 287, 288, 289, 31, 353, 354, 355, 356, 277, 278, 279, 280, 357, 358, 359, 360, 69, 529, 530, 531, 705, 706, 707, 708, 709, 710, 711, 735, 736, 737, 738, 724, 725, 726, 727, 728, 729, 730, 731, 732, 733, 734] (by decide +kernel) (by decide +kernel)
set_option maxRecDepth 20000 in
theorem gL_law_X3_fits : GoodIn wsL_law (wsV RL 87 RX3 yX3_fits wsX3_fits) := goodIn_app (goodIn_of _ (by decide +kernel)) ggL_law_X3_fits
set_option maxRecDepth 20000 in
theorem ggL_law_X4_fits : GoodIn wsL_law wsX4_fits := goodIn_r _ [593, 370, 371, 372, 5, 373, 124, 142, 143, 144, 145, 146, 147, 148, 149, 53, 57, 58, 59, 125, 126, 127, 268, 269, 270, 271, 374, 375, 376, 377, 244, 245, 246, 247, 378, 379, 380, 381, 382, 383, 384, 385, 323, 324, 325, 326, 173, 174, 175, 176, 248, 249, 250, 251, 311, 312, 313, 314, 712, 713, 714, 715, 716, 717, 718, 719, 720, 721, 722, 723] (by decide +kernel) (by decide +kernel)
set_option maxRecDepth 20000 in
theorem gL_law_X4_fits : GoodIn wsL_law (wsV RL 90 RX4 yX4_fits wsX4_fits) := goodIn_app (goodIn_of _ (by decide +kernel)) ggL_law_X4_fits
set_option maxRecDepth 20000 in
theorem ggL_law_X3_listed : GoodIn wsL_law wsX3_listed := goodIn_r _ [597, 15, 203, 256, 257, 258, 2, 259, 181, 598, 599, 600, 601, 19, 70, 336, 337, 338, 339, 331, 209, 210, 211, 14, 212, 34, 340, 341, 342, 343, 344, 345, 346, 18, 347, 42, 44, 348, 299, 300, 301, 30, 302, 165, 166, 167, 36, 37, 349, 350, 351, 352, 286, 287, 288, 289, 31, 353, 354, 355, 356, 277, 278, 279, 280, 357, 358, 359, 360, 69, 602, 603, 604, 605, 606, 607, 608, 609, 540, 541, 542, 543, 392, 393, 394, 395, 396, 397, 398, 399, 400, 401, 402, 403, 298, 705, 706, 707, 708, 709, 710, 711, 724, 725, 726, 727, 728, 729, 730, 731, 732, 733, 734, 735, 736, 737, 738] (by decide +kernel) (by decide +kernel)
set_option maxRecDepth 20000 in
theorem gL_law_X3_listed : GoodIn wsL_law (wsV RL 91 RX3 yX3_listed wsX3_listed) := goodIn_app (goodIn_of _ (by decide +kernel)) ggL_law_X3_listed
set_option maxRecDepth 20000 in
theorem ggL_law_X4_listed : GoodIn wsL_law wsX4_listed := goodIn_r _ [613, 268, 269, 270, 5, 271, 53, 125, 126, 127, 142, 143, 144, 145, 124, 146, 147, 148, 149, 57, 58, 59, 244, 245, 246, 247, 614, 615, 616, 617, 374, 375, 376, 377, 378, 379, 380, 381, 382, 383, 384, 385, 323, 324, 325, 326, 173, 174, 175, 176, 248, 249, 250, 251, 311, 312, 313, 314, 618, 619, 620, 621, 622, 623, 624, 625, 552, 553, 554, 555, 413, 414, 415, 416, 417, 418, 419, 420, 712, 713, 714, 715, 716, 717, 718, 719, 720, 721, 722, 723] (by decide +kernel) (by decide +kernel)
set_option maxRecDepth 20000 in
theorem gL_law_X4_listed : GoodIn wsL_law (wsV RL 94 RX4 yX4_listed wsX4_listed) := goodIn_app (goodIn_of _ (by decide +kernel)) ggL_law_X4_listed
set_option maxRecDepth 20000 in
theorem ggL_law_X3_could : GoodIn wsL_law wsX3_could := goodIn_r _ [629, 15, 277, 278, 279, 2, 280, 404, 401, 402, 14, 403, 298, 299, 300, 301, 30, 302, 165, 166, 167, 36, 37, 630, 631, 632, 633, 634, 19, 70, 282, 283, 284, 285, 286, 287, 288, 289, 31, 635, 636, 637, 638, 639, 640, 641, 331, 181, 540, 541, 542, 543, 340, 341, 342, 343, 344, 345, 346, 18, 347, 42, 44, 348, 336, 337, 338, 339, 203, 209, 210, 211, 212, 34, 349, 350, 351, 352, 353, 354, 355, 356, 357, 358, 359, 360, 69, 642, 643, 644, 645, 646, 647, 648, 649, 650, 651, 705, 706, 707, 708, 709, 710, 711, 724, 725, 726, 727, 728, 729, 730, 731, 732, 733, 734, 735, 736, 737, 738] (by decide +kernel) (by decide +kernel)
set_option maxRecDepth 20000 in
theorem gL_law_X3_could : GoodIn wsL_law (wsV RL 95 RX3 yX3_could wsX3_could) := goodIn_app (goodIn_of _ (by decide +kernel)) ggL_law_X3_could
set_option maxRecDepth 20000 in
theorem ggL_law_X4_could : GoodIn wsL_law wsX4_could := goodIn_r _ [655, 53, 307, 308, 5, 309, 310, 125, 126, 127, 417, 418, 419, 420, 323, 324, 325, 326, 173, 174, 175, 176, 142, 143, 144, 145, 124, 146, 147, 148, 149, 57, 58, 59, 656, 657, 658, 659, 311, 312, 313, 314, 552, 553, 554, 555, 382, 383, 384, 385, 578, 579, 580, 581, 374, 375, 376, 377, 244, 245, 246, 247, 378, 379, 380, 381, 248, 249, 250, 251, 660, 661, 662, 663, 712, 713, 714, 715, 716, 717, 718, 719, 720, 721, 722, 723] (by decide +kernel) (by decide +kernel)
set_option maxRecDepth 20000 in
theorem gL_law_X4_could : GoodIn wsL_law (wsV RL 98 RX4 yX4_could wsX4_could) := goodIn_app (goodIn_of _ (by decide +kernel)) ggL_law_X4_could
set_option maxRecDepth 20000 in
theorem ggL_law_X3_count : GoodIn wsL_law wsX3_count := goodIn_r _ [667, 15, 19, 70, 181, 390, 391, 429, 159, 160, 85, 23, 182, 668, 669, 670, 14, 671, 400, 401, 402, 403, 298, 299, 300, 301, 30, 302, 165, 166, 167, 36, 37, 672, 673, 674, 675, 676, 677, 678, 679, 31, 290, 291, 292, 293, 294, 295, 296, 297, 279, 2, 280, 680, 681, 682, 683, 684, 529, 530, 531, 705, 706, 707, 708, 709, 710, 711, 735, 736, 737, 738, 724, 725, 726, 727, 728, 729, 730, 731, 732, 733, 734, 739, 740] (by decide +kernel) (by decide +kernel)
set_option maxRecDepth 20000 in
theorem gL_law_X3_count : GoodIn wsL_law (wsV RL 99 RX3 yX3_count wsX3_count) := goodIn_app (goodIn_of _ (by decide +kernel)) ggL_law_X3_count
set_option maxRecDepth 20000 in
theorem ggL_law_X4_count : GoodIn wsL_law wsX4_count := goodIn_r _ [688, 53, 154, 123, 689, 690, 691, 5, 692, 693, 694, 695, 696, 124, 142, 143, 144, 145, 146, 147, 148, 149, 57, 58, 59, 697, 698, 699, 700, 417, 418, 419, 420, 323, 324, 325, 326, 173, 174, 175, 176, 315, 316, 317, 318, 319, 320, 321, 322, 701, 702, 703, 704, 712, 713, 714, 715, 716, 717, 718, 719, 720, 721, 722, 723] (by decide +kernel) (by decide +kernel)
set_option maxRecDepth 20000 in
theorem gL_law_X4_count : GoodIn wsL_law (wsV RL 102 RX4 yX4_count wsX4_count) := goodIn_app (goodIn_of _ (by decide +kernel)) ggL_law_X4_count
