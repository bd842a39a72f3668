set_option maxRecDepth 20000 in
theorem ggL_law_L_teach : GoodIn wsL_law wsL_teach := goodIn_ca (goodIn_ca (goodIn_r _ [233, 128, 78, 234, 235, 236, 2, 237, 133, 134, 84, 85, 16, 20, 238, 192, 193, 194, 15, 195, 174, 239, 240, 241, 242, 225, 243, 244, 245, 672, 673, 674, 702, 703, 704, 705, 706, 707, 708, 709, 710, 711, 712, 713, 714, 715, 716, 717, 718, 691, 692, 693, 694, 695, 696, 697, 698, 699, 700, 701] (by decide +kernel) (by decide +kernel)) (goodIn_sub (fun _ h => List.mem_append_right _ h) (by decide +kernel))) (goodIn_sub (fun _ h => List.mem_append_left _ (List.mem_append_left _ (List.mem_append_right _ h))) (by decide +kernel))
set_option maxRecDepth 20000 in
theorem gL_law_L_teach : GoodIn wsL_law (va_wsS RL 100 yL_teach wsL_teach) := goodIn_app (goodIn_of _ (by decide +kernel)) ggL_law_L_teach
set_option maxRecDepth 20000 in
theorem ggL_law_X3_teach : GoodIn wsL_law wsX3_teach := goodIn_r _ [249, 100, 67, 201, 202, 203, 5, 204, 179, 106, 107, 108, 250, 251, 252, 253, 230, 109, 110, 111, 112, 675, 676, 677, 678, 679, 680, 681, 682, 683, 684, 685, 686, 687, 688, 689, 690] (by decide +kernel) (by decide +kernel)
set_option maxRecDepth 20000 in
theorem gL_law_X3_teach : GoodIn wsL_law (wsV RL 102 RX3 yX3_teach wsX3_teach) := goodIn_app (goodIn_of _ (by decide +kernel)) ggL_law_X3_teach
set_option maxRecDepth 20000 in
theorem ggL_law_L_stretch : GoodIn wsL_law wsL_stretch := goodIn_ca (goodIn_r _ [256, 128, 257, 258, 259, 2, 260, 133, 134, 16, 136, 137, 138, 15, 139, 94, 261, 262, 263, 264, 265, 20, 266, 267, 268, 269, 270, 271, 19, 272, 53, 273, 37, 274, 275, 276, 277, 278, 279, 280, 43, 44, 672, 673, 674, 691, 692, 693, 694, 695, 696, 697, 698, 699, 700, 701, 702, 703, 704, 705, 706, 707, 708, 709, 710, 711, 712, 713, 714, 715, 716, 717, 718] (by decide +kernel) (by decide +kernel)) (goodIn_sub (fun _ h => List.mem_append_right _ h) (by decide +kernel))
set_option maxRecDepth 20000 in
theorem gL_law_L_stretch : GoodIn wsL_law (va_wsS RL 103 yL_stretch wsL_stretch) := goodIn_app (goodIn_of _ (by decide +kernel)) ggL_law_L_stretch
set_option maxRecDepth 20000 in
theorem ggL_law_X3_stretch : GoodIn wsL_law wsX3_stretch := goodIn_r _ [284, 100, 144, 145, 146, 5, 147, 101, 106, 107, 108, 285, 286, 287, 288, 179, 117, 118, 119, 120, 62, 289, 290, 291, 292, 63, 293, 294, 295, 296, 205, 206, 207, 208, 65, 297, 298, 299, 300, 109, 110, 111, 112, 675, 676, 677, 678, 679, 680, 681, 682, 683, 684, 685, 686, 687, 688, 689, 690] (by decide +kernel) (by decide +kernel)
set_option maxRecDepth 20000 in
theorem gL_law_X3_stretch : GoodIn wsL_law (wsV RL 105 RX3 yX3_stretch wsX3_stretch) := goodIn_app (goodIn_of _ (by decide +kernel)) ggL_law_X3_stretch
set_option maxRecDepth 20000 in
theorem ggL_law_L_walker : GoodIn wsL_law wsL_walker := goodIn_ca (goodIn_r _ [303, 128, 304, 305, 306, 2, 307, 133, 134, 16, 192, 193, 194, 15, 195, 174, 308, 309, 310, 311, 312, 20, 168, 313, 169, 187, 314, 315, 316, 317, 318, 319, 19, 320, 53, 280, 321, 322, 323, 324, 43, 44, 672, 673, 674, 691, 692, 693, 694, 695, 696, 697, 698, 699, 700, 701, 702, 703, 704, 705, 706, 707, 708, 709, 710, 711, 712, 713, 714, 715, 716, 717, 718] (by decide +kernel) (by decide +kernel)) (goodIn_sub (fun _ h => List.mem_append_right _ h) (by decide +kernel))
set_option maxRecDepth 20000 in
theorem gL_law_L_walker : GoodIn wsL_law (va_wsS RL 106 yL_walker wsL_walker) := goodIn_app (goodIn_of _ (by decide +kernel)) ggL_law_L_walker
set_option maxRecDepth 20000 in
theorem ggL_law_X3_walker : GoodIn wsL_law wsX3_walker := goodIn_r _ [328, 100, 201, 202, 203, 5, 204, 179, 106, 107, 108, 329, 330, 331, 332, 205, 206, 207, 208, 65, 333, 334, 335, 336, 337, 338, 339, 340, 341, 342, 190, 343, 293, 294, 295, 296, 109, 110, 111, 112, 675, 676, 677, 678, 679, 680, 681, 682, 683, 684, 685, 686, 687, 688, 689, 690] (by decide +kernel) (by decide +kernel)
set_option maxRecDepth 20000 in
theorem gL_law_X3_walker : GoodIn wsL_law (wsV RL 108 RX3 yX3_walker wsX3_walker) := goodIn_app (goodIn_of _ (by decide +kernel)) ggL_law_X3_walker
set_option maxRecDepth 20000 in
theorem ggL_law_L_knows : GoodIn wsL_law wsL_knows := goodIn_ca (goodIn_r _ [346, 128, 347, 348, 349, 2, 350, 133, 134, 16, 20, 238, 192, 193, 194, 15, 195, 174, 239, 240, 241, 242, 225, 243, 244, 245, 672, 673, 674, 702, 703, 704, 705, 706, 707, 708, 709, 710, 711, 712, 713, 714, 715, 716, 717, 718, 691, 692, 693, 694, 695, 696, 697, 698, 699, 700, 701] (by decide +kernel) (by decide +kernel)) (goodIn_sub (fun _ h => List.mem_append_right _ h) (by decide +kernel))
set_option maxRecDepth 20000 in
theorem gL_law_L_knows : GoodIn wsL_law (va_wsS RL 109 yL_knows wsL_knows) := goodIn_app (goodIn_of _ (by decide +kernel)) ggL_law_L_knows
set_option maxRecDepth 20000 in
theorem ggL_law_X3_knows : GoodIn wsL_law wsX3_knows := goodIn_r _ [354, 100, 67, 201, 202, 203, 5, 204, 179, 106, 107, 108, 250, 251, 252, 253, 230, 109, 110, 111, 112, 675, 676, 677, 678, 679, 680, 681, 682, 683, 684, 685, 686, 687, 688, 689, 690] (by decide +kernel) (by decide +kernel)
set_option maxRecDepth 20000 in
theorem gL_law_X3_knows : GoodIn wsL_law (wsV RL 111 RX3 yX3_knows wsX3_knows) := goodIn_app (goodIn_of _ (by decide +kernel)) ggL_law_X3_knows
set_option maxRecDepth 20000 in
theorem ggL_law_L_song : GoodIn wsL_law wsL_song := goodIn_ca (goodIn_r _ [357, 128, 358, 359, 360, 2, 361, 133, 134, 16, 362, 20, 239, 240, 241, 15, 242, 225, 363, 364, 365, 19, 366, 53, 280, 47, 244, 245, 367, 368, 369, 370, 371, 372, 373, 374, 375, 376, 377, 378, 672, 673, 674, 691, 692, 693, 694, 695, 696, 697, 698, 699, 700, 701, 702, 703, 704, 705, 706, 707, 708, 709, 710, 711, 712, 713, 714, 715, 716, 717, 718] (by decide +kernel) (by decide +kernel)) (goodIn_sub (fun _ h => List.mem_append_right _ h) (by decide +kernel))
set_option maxRecDepth 20000 in
theorem gL_law_L_song : GoodIn wsL_law (va_wsS RL 112 yL_song wsL_song) := goodIn_app (goodIn_of _ (by decide +kernel)) ggL_law_L_song
set_option maxRecDepth 20000 in
theorem ggL_law_X3_song : GoodIn wsL_law wsX3_song := goodIn_r _ [382, 100, 250, 251, 252, 5, 253, 230, 106, 107, 108, 383, 384, 385, 386, 66, 179, 387, 388, 389, 390, 67, 109, 110, 111, 112, 675, 676, 677, 678, 679, 680, 681, 682, 683, 684, 685, 686, 687, 688, 689, 690] (by decide +kernel) (by decide +kernel)
set_option maxRecDepth 20000 in
theorem gL_law_X3_song : GoodIn wsL_law (wsV RL 114 RX3 yX3_song wsX3_song) := goodIn_app (goodIn_of _ (by decide +kernel)) ggL_law_X3_song
set_option maxRecDepth 20000 in
theorem ggL_law_L_pass : GoodIn wsL_law wsL_pass := goodIn_ca (goodIn_ca (goodIn_r _ [393, 78, 79, 394, 395, 396, 2, 397, 84, 85, 86, 87, 16, 88, 20, 398, 399, 400, 19, 401, 53, 280, 43, 402, 403, 404, 405, 406, 407, 408, 409, 410, 411, 412, 413, 414, 415, 416, 417, 418, 419, 42, 40, 420, 421, 190, 422, 423, 424, 425, 426, 427, 318, 319, 320, 321, 322, 323, 324, 44, 428, 429, 430, 431, 48, 432, 433, 434, 435, 436, 437, 438, 439, 440, 441, 442, 47, 49, 443, 444, 445, 446, 189, 191, 447, 103, 104, 105, 448, 449, 450, 451, 50, 54, 55, 56, 57, 452, 453, 454, 455, 456, 457, 458, 244, 245, 459, 460, 461, 462, 463, 51, 52, 464, 270, 271, 272, 273, 37, 465, 466, 467, 468, 469, 470, 471, 472, 473, 45, 474, 475, 476, 477, 478, 479, 480, 481, 482, 483, 484, 485, 15, 486, 94, 28, 26, 487, 488, 489, 490, 39, 38, 491, 492, 493, 494, 46, 495, 496, 497, 498, 672, 673, 674, 691, 692, 693, 694, 695, 696, 697, 698, 699, 700, 701, 702, 703, 704, 705, 706, 707, 708, 709, 710, 711, 712, 713, 714, 715, 716, 717, 718] (by decide +kernel) (by decide +kernel)) (goodIn_sub (fun _ h => List.mem_append_left _ (List.mem_append_left _ (List.mem_append_right _ h))) (by decide +kernel))) (goodIn_sub (fun _ h => List.mem_append_left _ (List.mem_append_right _ h)) (by decide +kernel))
set_option maxRecDepth 20000 in
theorem gL_law_L_pass : GoodIn wsL_law (va_wsS RL 115 yL_pass wsL_pass) := goodIn_app (goodIn_of _ (by decide +kernel)) ggL_law_L_pass
set_option maxRecDepth 20000 in
theorem ggL_law_X3_pass : GoodIn wsL_law wsX3_pass := goodIn_r _ [502, 100, 101, 106, 107, 5, 108, 109, 110, 111, 112, 503, 504, 505, 506, 64, 68, 71, 179, 72, 73, 507, 508, 509, 510, 205, 206, 207, 208, 65, 511, 512, 513, 514, 515, 421, 190, 422, 70, 209, 210, 211, 212, 293, 294, 295, 296, 333, 334, 335, 336, 337, 338, 339, 340, 341, 342, 343, 516, 517, 518, 519, 230, 69, 67, 520, 521, 522, 523, 66, 524, 525, 526, 527, 62, 297, 298, 299, 300, 117, 118, 119, 120, 113, 114, 115, 116, 528, 529, 530, 531, 289, 290, 291, 292, 63, 675, 676, 677, 678, 679, 680, 681, 682, 683, 684, 685, 686, 687, 688, 689, 690] (by decide +kernel) (by decide +kernel)
set_option maxRecDepth 20000 in
theorem gL_law_X3_pass : GoodIn wsL_law (wsV RL 117 RX3 yX3_pass wsX3_pass) := goodIn_app (goodIn_of _ (by decide +kernel)) ggL_law_X3_pass
set_option maxRecDepth 20000 in
theorem ggL_law_L_count : GoodIn wsL_law wsL_count := goodIn_ca (goodIn_r _ [534, 128, 535, 536, 537, 2, 538, 133, 134, 539, 540, 541, 542, 20, 89, 16, 88, 543, 167, 220, 398, 399, 400, 19, 401, 53, 280, 43, 544, 545, 546, 547, 42, 548, 549, 550, 551, 44, 552, 553, 554, 555, 556, 672, 673, 674, 702, 703, 704, 705, 706, 707, 708, 709, 710, 711, 712, 713, 714, 715, 716, 717, 718, 691, 692, 693, 694, 695, 696, 697, 698, 699, 700, 701] (by decide +kernel) (by decide +kernel)) (goodIn_sub (fun _ h => List.mem_append_right _ h) (by decide +kernel))
set_option maxRecDepth 20000 in
theorem gL_law_L_count : GoodIn wsL_law (va_wsS RL 118 yL_count wsL_count) := goodIn_app (goodIn_of _ (by decide +kernel)) ggL_law_L_count
set_option maxRecDepth 20000 in
theorem ggL_law_X3_count : GoodIn wsL_law wsX3_count := goodIn_r _ [560, 100, 106, 107, 5, 108, 561, 562, 563, 564, 68, 101, 179, 230, 113, 114, 115, 116, 117, 118, 119, 120, 62, 507, 508, 509, 510, 205, 206, 207, 208, 65, 565, 566, 567, 568, 293, 294, 295, 296, 569, 570, 571, 572, 109, 110, 111, 112, 675, 676, 677, 678, 679, 680, 681, 682, 683, 684, 685, 686, 687, 688, 689, 690] (by decide +kernel) (by decide +kernel)
set_option maxRecDepth 20000 in
theorem gL_law_X3_count : GoodIn wsL_law (wsV RL 120 RX3 yX3_count wsX3_count) := goodIn_app (goodIn_of _ (by decide +kernel)) ggL_law_X3_count
set_option maxRecDepth 20000 in
theorem ggL_law_L_foresee : GoodIn wsL_law wsL_foresee := goodIn_ca (goodIn_ca (goodIn_ca (goodIn_r _ [575, 78, 128, 79, 576, 577, 578, 2, 579, 84, 85, 133, 134, 86, 87, 16, 88, 21, 20, 580, 581, 582, 19, 583, 411, 37, 38, 39, 40, 42, 43, 44, 45, 46, 47, 443, 444, 445, 446, 189, 190, 191, 447, 103, 104, 105, 432, 433, 434, 402, 403, 404, 405, 406, 407, 408, 409, 53, 410, 412, 413, 414, 415, 416, 417, 418, 419, 280, 420, 421, 422, 423, 424, 425, 426, 427, 318, 319, 320, 321, 322, 323, 324, 428, 429, 430, 431, 48, 435, 436, 437, 438, 439, 440, 441, 442, 49, 448, 449, 450, 451, 50, 54, 55, 56, 57, 452, 453, 454, 455, 456, 457, 458, 244, 245, 459, 460, 461, 462, 463, 51, 52, 464, 270, 271, 272, 273, 465, 466, 467, 468, 469, 470, 471, 472, 473, 474, 475, 476, 477, 478, 479, 480, 481, 482, 483, 484, 485, 15, 486, 94, 28, 26, 487, 488, 489, 490, 491, 492, 493, 494, 495, 496, 497, 498, 398, 399, 400, 401, 544, 545, 546, 547, 584, 585, 586, 587, 588, 364, 365, 366, 672, 673, 674, 691, 692, 693, 694, 695, 696, 697, 698, 699, 700, 701, 702, 703, 704, 705, 706, 707, 708, 709, 710, 711, 712, 713, 714, 715, 716, 717, 718] (by decide +kernel) (by decide +kernel)) (goodIn_sub (fun _ h => List.mem_append_left _ (List.mem_append_left _ (List.mem_append_right _ h))) (by decide +kernel))) (goodIn_sub (fun _ h => List.mem_append_right _ h) (by decide +kernel))) (goodIn_sub (fun _ h => List.mem_append_left _ (List.mem_append_right _ h)) (by decide +kernel))
set_option maxRecDepth 20000 in
theorem gL_law_L_foresee : GoodIn wsL_law (va_wsS RL 121 yL_foresee wsL_foresee) := goodIn_app (goodIn_of _ (by decide +kernel)) ggL_law_L_foresee
