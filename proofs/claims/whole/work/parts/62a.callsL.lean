set_option maxRecDepth 20000 in
theorem ggL_law_X2_init : GoodIn wsL_law wsX2_init := goodIn_r _ [9, 10, 11, 12, 13, 14, 15, 16, 17, 18, 19, 20, 21, 22, 23, 24, 25, 26, 27, 28, 29, 30, 31, 32, 33, 34, 35, 36, 37, 38, 39, 40, 41, 42, 43, 44, 45, 46, 47, 48, 49, 50, 51, 52, 53, 54, 55, 56, 57, 691, 692, 693, 694, 695, 696, 697, 698, 699, 700, 701, 672, 673, 674, 702, 703, 704, 705, 706, 707, 708, 709, 710, 711, 712, 713, 714, 715, 716, 717, 718] (by decide +kernel) (by decide +kernel)
set_option maxRecDepth 20000 in
theorem gL_law_X2_init : GoodIn wsL_law (wsX2_init) := ggL_law_X2_init
set_option maxRecDepth 20000 in
theorem ggL_law_X3_init : GoodIn wsL_law wsX3_init := goodIn_r _ [60, 61, 11, 12, 25, 62, 63, 64, 65, 66, 67, 68, 69, 41, 70, 71, 72, 73, 675, 676, 677, 678, 679, 680, 681, 682, 683, 684, 685, 686, 687, 688, 689, 690] (by decide +kernel) (by decide +kernel)
set_option maxRecDepth 20000 in
theorem gL_law_X3_init : GoodIn wsL_law (wsX3_init) := ggL_law_X3_init
set_option maxRecDepth 20000 in
theorem ggL_law_L_addStretch : GoodIn wsL_law wsL_addStretch := goodIn_ca (goodIn_ca (goodIn_r _ [77, 78, 79, 80, 81, 82, 2, 83, 84, 85, 86, 87, 16, 88, 20, 89, 90, 91, 92, 15, 93, 94, 26, 27, 28, 95, 672, 673, 674, 691, 692, 693, 694, 695, 696, 697, 698, 699, 700, 701, 702, 703, 704, 705, 706, 707, 708, 709, 710, 711, 712, 713, 714, 715, 716, 717, 718] (by decide +kernel) (by decide +kernel)) (goodIn_sub (fun _ h => List.mem_append_left _ (List.mem_append_left _ (List.mem_append_right _ h))) (by decide +kernel))) (goodIn_sub (fun _ h => List.mem_append_left _ (List.mem_append_right _ h)) (by decide +kernel))
set_option maxRecDepth 20000 in
theorem gL_law_L_addStretch : GoodIn wsL_law (va_wsS RL 73 yL_addStretch wsL_addStretch) := goodIn_app (goodIn_of _ (by decide +kernel)) ggL_law_L_addStretch
set_option maxRecDepth 20000 in
theorem ggL_law_X3_addStretch : GoodIn wsL_law wsX3_addStretch := goodIn_r _ [99, 100, 101, 68, 25, 62, 102, 103, 104, 105, 106, 107, 5, 108, 109, 110, 111, 112, 113, 114, 115, 116, 117, 118, 119, 120, 675, 676, 677, 678, 679, 680, 681, 682, 683, 684, 685, 686, 687, 688, 689, 690] (by decide +kernel) (by decide +kernel)
set_option maxRecDepth 20000 in
theorem gL_law_X3_addStretch : GoodIn wsL_law (wsV RL 78 RX3 yX3_addStretch wsX3_addStretch) := goodIn_app (goodIn_of _ (by decide +kernel)) ggL_law_X3_addStretch
set_option maxRecDepth 20000 in
theorem ggL_law_X3_thrown : GoodIn wsL_law wsX3_thrown := goodIn_r _ [124, 100, 675, 676, 677, 678, 679, 680, 681, 682, 683, 684, 685, 686, 687, 688, 689, 690] (by decide +kernel) (by decide +kernel)
set_option maxRecDepth 20000 in
theorem gL_law_X3_thrown : GoodIn wsL_law (wsV RL 79 RX3 yX3_thrown wsX3_thrown) := goodIn_app (goodIn_of _ (by decide +kernel)) ggL_law_X3_thrown
set_option maxRecDepth 20000 in
theorem ggL_law_L_post : GoodIn wsL_law wsL_post := goodIn_ca (goodIn_r _ [127, 128, 129, 130, 131, 2, 132, 133, 134, 16, 20, 135, 136, 137, 138, 15, 139, 94, 672, 673, 674, 702, 703, 704, 705, 706, 707, 708, 709, 710, 711, 712, 713, 714, 715, 716, 717, 718, 691, 692, 693, 694, 695, 696, 697, 698, 699, 700, 701] (by decide +kernel) (by decide +kernel)) (goodIn_sub (fun _ h => List.mem_append_right _ h) (by decide +kernel))
set_option maxRecDepth 20000 in
theorem gL_law_L_post : GoodIn wsL_law (va_wsS RL 83 yL_post wsL_post) := goodIn_app (goodIn_of _ (by decide +kernel)) ggL_law_L_post
set_option maxRecDepth 20000 in
theorem ggL_law_X3_post : GoodIn wsL_law wsX3_post := goodIn_r _ [143, 100, 63, 106, 107, 5, 108, 144, 145, 146, 147, 101, 109, 110, 111, 112, 675, 676, 677, 678, 679, 680, 681, 682, 683, 684, 685, 686, 687, 688, 689, 690] (by decide +kernel) (by decide +kernel)
set_option maxRecDepth 20000 in
theorem gL_law_X3_post : GoodIn wsL_law (wsV RL 85 RX3 yX3_post wsX3_post) := goodIn_app (goodIn_of _ (by decide +kernel)) ggL_law_X3_post
set_option maxRecDepth 20000 in
theorem ggL_law_L_setWind : GoodIn wsL_law wsL_setWind := goodIn_ca (goodIn_ca (goodIn_r _ [150, 128, 78, 151, 152, 153, 2, 154, 133, 134, 84, 85, 16, 155, 672, 673, 674, 691, 692, 693, 694, 695, 696, 697, 698, 699, 700, 701] (by decide +kernel) (by decide +kernel)) (goodIn_sub (fun _ h => List.mem_append_right _ h) (by decide +kernel))) (goodIn_sub (fun _ h => List.mem_append_left _ (List.mem_append_left _ (List.mem_append_right _ h))) (by decide +kernel))
set_option maxRecDepth 20000 in
theorem gL_law_L_setWind : GoodIn wsL_law (va_wsS RL 86 yL_setWind wsL_setWind) := goodIn_app (goodIn_of _ (by decide +kernel)) ggL_law_L_setWind
set_option maxRecDepth 20000 in
theorem ggL_law_X3_setWind : GoodIn wsL_law wsX3_setWind := goodIn_r _ [159, 100, 64, 106, 107, 5, 108, 109, 110, 111, 112, 675, 676, 677, 678, 679, 680, 681, 682, 683, 684, 685, 686, 687, 688, 689, 690] (by decide +kernel) (by decide +kernel)
set_option maxRecDepth 20000 in
theorem gL_law_X3_setWind : GoodIn wsL_law (wsV RL 88 RX3 yX3_setWind wsX3_setWind) := goodIn_app (goodIn_of _ (by decide +kernel)) ggL_law_X3_setWind
set_option maxRecDepth 20000 in
theorem ggL_law_L_come : GoodIn wsL_law wsL_come := goodIn_ca (goodIn_ca (goodIn_r _ [162, 78, 79, 163, 164, 165, 2, 166, 84, 85, 86, 87, 16, 167, 20, 168, 169, 170, 171, 172, 15, 173, 174, 30, 31, 672, 673, 674, 691, 692, 693, 694, 695, 696, 697, 698, 699, 700, 701, 702, 703, 704, 705, 706, 707, 708, 709, 710, 711, 712, 713, 714, 715, 716, 717, 718] (by decide +kernel) (by decide +kernel)) (goodIn_sub (fun _ h => List.mem_append_left _ (List.mem_append_left _ (List.mem_append_right _ h))) (by decide +kernel))) (goodIn_sub (fun _ h => List.mem_append_left _ (List.mem_append_right _ h)) (by decide +kernel))
set_option maxRecDepth 20000 in
theorem gL_law_L_come : GoodIn wsL_law (va_wsS RL 89 yL_come wsL_come) := goodIn_app (goodIn_of _ (by decide +kernel)) ggL_law_L_come
set_option maxRecDepth 20000 in
theorem ggL_law_X3_come : GoodIn wsL_law wsX3_come := goodIn_r _ [178, 100, 179, 25, 65, 102, 103, 104, 105, 106, 107, 5, 108, 109, 110, 111, 112, 675, 676, 677, 678, 679, 680, 681, 682, 683, 684, 685, 686, 687, 688, 689, 690] (by decide +kernel) (by decide +kernel)
set_option maxRecDepth 20000 in
theorem gL_law_X3_come : GoodIn wsL_law (wsV RL 92 RX3 yX3_come wsX3_come) := goodIn_app (goodIn_of _ (by decide +kernel)) ggL_law_X3_come
set_option maxRecDepth 20000 in
theorem ggL_law_L_trim : GoodIn wsL_law wsL_trim := goodIn_ca (goodIn_ca (goodIn_ca (goodIn_r _ [182, 128, 78, 79, 183, 184, 185, 2, 186, 133, 134, 84, 85, 86, 87, 16, 20, 187, 168, 188, 189, 190, 191, 169, 192, 193, 194, 15, 195, 174, 672, 673, 674, 702, 703, 704, 705, 706, 707, 708, 709, 710, 711, 712, 713, 714, 715, 716, 717, 718, 691, 692, 693, 694, 695, 696, 697, 698, 699, 700, 701] (by decide +kernel) (by decide +kernel)) (goodIn_sub (fun _ h => List.mem_append_right _ h) (by decide +kernel))) (goodIn_sub (fun _ h => List.mem_append_left _ (List.mem_append_left _ (List.mem_append_right _ h))) (by decide +kernel))) (goodIn_sub (fun _ h => List.mem_append_left _ (List.mem_append_right _ h)) (by decide +kernel))
set_option maxRecDepth 20000 in
theorem gL_law_L_trim : GoodIn wsL_law (va_wsS RL 93 yL_trim wsL_trim) := goodIn_app (goodIn_of _ (by decide +kernel)) ggL_law_L_trim
set_option maxRecDepth 20000 in
theorem ggL_law_X3_trim : GoodIn wsL_law wsX3_trim := goodIn_r _ [199, 100, 200, 189, 190, 191, 201, 202, 203, 5, 204, 179, 106, 107, 108, 109, 110, 111, 112, 205, 206, 207, 208, 65, 209, 210, 211, 212, 675, 676, 677, 678, 679, 680, 681, 682, 683, 684, 685, 686, 687, 688, 689, 690] (by decide +kernel) (by decide +kernel)
set_option maxRecDepth 20000 in
theorem gL_law_X3_trim : GoodIn wsL_law (wsV RL 95 RX3 yX3_trim wsX3_trim) := goodIn_app (goodIn_of _ (by decide +kernel)) ggL_law_X3_trim
set_option maxRecDepth 20000 in
theorem ggL_law_L_addSong : GoodIn wsL_law wsL_addSong := goodIn_ca (goodIn_ca (goodIn_r _ [215, 78, 79, 216, 217, 218, 2, 219, 84, 85, 86, 87, 16, 220, 221, 222, 223, 15, 224, 225, 32, 672, 673, 674, 691, 692, 693, 694, 695, 696, 697, 698, 699, 700, 701] (by decide +kernel) (by decide +kernel)) (goodIn_sub (fun _ h => List.mem_append_left _ (List.mem_append_left _ (List.mem_append_right _ h))) (by decide +kernel))) (goodIn_sub (fun _ h => List.mem_append_left _ (List.mem_append_right _ h)) (by decide +kernel))
set_option maxRecDepth 20000 in
theorem gL_law_L_addSong : GoodIn wsL_law (va_wsS RL 96 yL_addSong wsL_addSong) := goodIn_app (goodIn_of _ (by decide +kernel)) ggL_law_L_addSong
set_option maxRecDepth 20000 in
theorem ggL_law_X3_addSong : GoodIn wsL_law wsX3_addSong := goodIn_r _ [229, 100, 230, 66, 106, 107, 5, 108, 109, 110, 111, 112, 675, 676, 677, 678, 679, 680, 681, 682, 683, 684, 685, 686, 687, 688, 689, 690] (by decide +kernel) (by decide +kernel)
set_option maxRecDepth 20000 in
theorem gL_law_X3_addSong : GoodIn wsL_law (wsV RL 99 RX3 yX3_addSong wsX3_addSong) := goodIn_app (goodIn_of _ (by decide +kernel)) ggL_law_X3_addSong
