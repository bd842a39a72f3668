/-! the words of the law are among the tables' -/
set_option maxRecDepth 20000 in
theorem in_wsL_law0_r1 : ∀ w ∈ wsL_law0_r1, w ∈ lw_tbl := fun w h => (goodIn_r (big := lw_tbl) wsL_law0_r1 [38, 39, 24, 593, 591, 730, 107, 585, 589, 729, 368, 29, 369, 726, 727, 728, 40, 41, 42, 43, 44, 45, 46, 47] (by decide +kernel) (by decide +kernel) w h).1
set_option maxRecDepth 20000 in
theorem in_wsL_law0_r2 : ∀ w ∈ wsL_law0_r2, w ∈ lw_tbl := fun w h => (goodIn_r (big := lw_tbl) wsL_law0_r2 [25, 181, 108, 109, 26, 182, 183, 49, 50, 51, 58, 61, 63, 66, 72, 75, 81, 110, 111, 112, 113, 120, 122, 124] (by decide +kernel) (by decide +kernel) w h).1
set_option maxRecDepth 20000 in
theorem in_wsL_law0_r3 : ∀ w ∈ wsL_law0_r3, w ∈ lw_tbl := fun w h => by
  unfold wsL_law0_r3 at h
  simp only [List.mem_cons, List.not_mem_nil, or_false] at h
  rcases h with rfl | rfl | rfl | rfl | rfl | rfl | rfl | rfl | rfl | rfl | rfl | rfl | rfl | rfl | rfl | rfl | rfl | rfl | rfl | rfl | rfl | rfl | rfl | rfl
  · exact List.mem_of_getElem? (i := 126) (by decide +kernel)
  · exact List.mem_of_getElem? (i := 180) (by decide +kernel)
  · exact List.mem_of_getElem? (i := 128) (by decide +kernel)
  · exact List.mem_of_getElem? (i := 130) (by decide +kernel)
  · exact List.mem_of_getElem? (i := 132) (by decide +kernel)
  · exact List.mem_of_getElem? (i := 134) (by decide +kernel)
  · exact List.mem_of_getElem? (i := 136) (by decide +kernel)
  · exact List.mem_of_getElem? (i := 138) (by decide +kernel)
  · exact List.mem_of_getElem? (i := 140) (by decide +kernel)
  · exact List.mem_of_getElem? (i := 141) (by decide +kernel)
  · exact List.mem_of_getElem? (i := 142) (by decide +kernel)
  · exact List.mem_of_getElem? (i := 143) (by decide +kernel)
  · exact List.mem_of_getElem? (i := 144) (by decide +kernel)
  · exact List.mem_of_getElem? (i := 117) (by decide +kernel)
  · exact List.mem_of_getElem? (i := 114) (by decide +kernel)
  · exact List.mem_of_getElem? (i := 115) (by decide +kernel)
  · exact List.mem_of_getElem? (i := 27) (by decide +kernel)
  · exact List.mem_of_getElem? (i := 116) (by decide +kernel)
  · exact List.mem_of_getElem? (i := 572) (by decide +kernel)
  · exact List.mem_of_getElem? (i := 573) (by decide +kernel)
  · exact List.mem_of_getElem? (i := 23) (by decide +kernel)
  · exact List.mem_of_getElem? (i := 574) (by rfl)
  · exact List.mem_of_getElem? (i := 575) (by decide +kernel)
  · exact List.mem_of_getElem? (i := 506) (by decide +kernel)
set_option maxRecDepth 20000 in
theorem in_wsL_law0_r4 : ∀ w ∈ wsL_law0_r4, w ∈ lw_tbl := fun w h => (goodIn_r (big := lw_tbl) wsL_law0_r4 [28, 620, 394, 395, 675, 577, 578, 579, 580, 584, 586, 588, 582, 590, 592, 595, 596, 597, 598, 568, 569, 570, 571, 564] (by decide +kernel) (by decide +kernel) w h).1
set_option maxRecDepth 20000 in
theorem in_wsL_law0_r5 : ∀ w ∈ wsL_law0_r5, w ∈ lw_tbl := fun w h => (goodIn_r (big := lw_tbl) wsL_law0_r5 [565, 566, 567, 621, 622, 623, 624, 316, 33, 332, 34, 53, 119, 627, 628, 629, 630, 52, 55, 631, 632, 633, 634, 635] (by decide +kernel) (by decide +kernel) w h).1
set_option maxRecDepth 20000 in
theorem in_wsL_law0_r6 : ∀ w ∈ wsL_law0_r6, w ∈ lw_tbl := fun w h => (goodIn_r (big := lw_tbl) wsL_law0_r6 [636, 637, 638, 199, 35, 67, 641, 642, 643, 644, 71, 127, 129, 647, 648, 649, 650, 69, 651, 652, 653, 654, 655, 36] (by decide +kernel) (by decide +kernel) w h).1
set_option maxRecDepth 20000 in
theorem in_wsL_law0_r7 : ∀ w ∈ wsL_law0_r7, w ∈ lw_tbl := fun w h => (goodIn_r (big := lw_tbl) wsL_law0_r7 [660, 661, 663, 664, 657, 658, 659, 669, 672, 674, 696, 697, 698, 699, 80, 702, 703, 704, 705, 78, 706, 707, 708, 709] (by decide +kernel) (by decide +kernel) w h).1
set_option maxRecDepth 20000 in
theorem in_wsL_law0_r8 : ∀ w ∈ wsL_law0_r8, w ∈ lw_tbl := fun w h => by
  unfold wsL_law0_r8 at h
  simp only [List.mem_cons, List.not_mem_nil, or_false] at h
  rcases h with rfl | rfl | rfl | rfl | rfl | rfl | rfl | rfl | rfl | rfl | rfl | rfl | rfl | rfl | rfl | rfl | rfl | rfl | rfl | rfl | rfl | rfl | rfl | rfl
  · exact List.mem_of_getElem? (i := 139) (by decide +kernel)
  · exact List.mem_of_getElem? (i := 283) (by decide +kernel)
  · exact List.mem_of_getElem? (i := 284) (by decide +kernel)
  · exact List.mem_of_getElem? (i := 285) (by decide +kernel)
  · exact List.mem_of_getElem? (i := 286) (by decide +kernel)
  · exact List.mem_of_getElem? (i := 304) (by decide +kernel)
  · exact List.mem_of_getElem? (i := 305) (by decide +kernel)
  · exact List.mem_of_getElem? (i := 306) (by decide +kernel)
  · exact List.mem_of_getElem? (i := 307) (by decide +kernel)
  · exact List.mem_of_getElem? (i := 309) (by decide +kernel)
  · exact List.mem_of_getElem? (i := 310) (by decide +kernel)
  · exact List.mem_of_getElem? (i := 311) (by decide +kernel)
  · exact List.mem_of_getElem? (i := 711) (by decide +kernel)
  · exact List.mem_of_getElem? (i := 712) (by decide +kernel)
  · exact List.mem_of_getElem? (i := 713) (by rfl)
  · exact List.mem_of_getElem? (i := 667) (by decide +kernel)
  · exact List.mem_of_getElem? (i := 662) (by decide +kernel)
  · exact List.mem_of_getElem? (i := 665) (by decide +kernel)
  · exact List.mem_of_getElem? (i := 587) (by decide +kernel)
  · exact List.mem_of_getElem? (i := 714) (by decide +kernel)
  · exact List.mem_of_getElem? (i := 715) (by decide +kernel)
  · exact List.mem_of_getElem? (i := 716) (by decide +kernel)
  · exact List.mem_of_getElem? (i := 717) (by decide +kernel)
  · exact List.mem_of_getElem? (i := 131) (by decide +kernel)
set_option maxRecDepth 20000 in
theorem in_wsL_law0_r9 : ∀ w ∈ wsL_law0_r9, w ∈ lw_tbl := fun w h => (goodIn_r (big := lw_tbl) wsL_law0_r9 [720, 721, 722, 723, 724, 121, 195, 196, 197, 198, 279, 280, 281, 282, 288, 290, 2, 291, 73, 76, 133, 135, 137, 292] (by decide +kernel) (by decide +kernel) w h).1
set_option maxRecDepth 20000 in
theorem in_wsL_law0_r10 : ∀ w ∈ wsL_law0_r10, w ∈ lw_tbl := fun w h => (goodIn_r (big := lw_tbl) wsL_law0_r10 [293, 294, 295, 70, 296, 298, 3, 299, 300, 301, 302, 303, 191, 192, 193, 194, 267, 269, 1, 270, 60, 65, 123, 125] (by decide +kernel) (by decide +kernel) w h).1
set_option maxRecDepth 20000 in
theorem in_wsL_law0_r11 : ∀ w ∈ wsL_law0_r11, w ∈ lw_tbl := fun w h => (goodIn_r (big := lw_tbl) wsL_law0_r11 [271, 272, 273, 274, 62, 275, 276, 277, 278, 64, 59, 485, 486, 487, 488, 473, 474, 475, 476, 118, 390, 391, 392, 393] (by decide +kernel) (by decide +kernel) w h).1
set_option maxRecDepth 20000 in
theorem in_wsL_law0_r12 : ∀ w ∈ wsL_law0_r12, w ∈ lw_tbl := fun w h => (goodIn_r (big := lw_tbl) wsL_law0_r12 [396, 398, 397, 37, 379, 380, 381, 490, 357, 358, 359, 68, 360, 361, 29, 362, 363, 365, 4, 366, 367, 370, 372, 5] (by decide +kernel) (by decide +kernel) w h).1
set_option maxRecDepth 20000 in
theorem in_wsL_law0_r13 : ∀ w ∈ wsL_law0_r13, w ∈ lw_tbl := fun w h => (goodIn_r (big := lw_tbl) wsL_law0_r13 [373, 374, 375, 377, 6, 378, 382, 384, 7, 385, 386, 388, 8, 389, 399, 401, 9, 402, 403, 405, 10, 406, 77, 79] (by decide +kernel) (by decide +kernel) w h).1
set_option maxRecDepth 20000 in
theorem in_wsL_law0_r14 : ∀ w ∈ wsL_law0_r14, w ∈ lw_tbl := fun w h => (goodIn_r (big := lw_tbl) wsL_law0_r14 [83, 408, 410, 11, 411, 54, 412, 413, 415, 12, 416, 417, 419, 13, 420, 74, 421, 423, 14, 424, 57, 425, 427, 15] (by decide +kernel) (by decide +kernel) w h).1
set_option maxRecDepth 20000 in
theorem in_wsL_law0_r15 : ∀ w ∈ wsL_law0_r15, w ∈ lw_tbl := fun w h => by
  unfold wsL_law0_r15 at h
  simp only [List.mem_cons, List.not_mem_nil, or_false] at h
  rcases h with rfl | rfl | rfl | rfl | rfl | rfl | rfl | rfl | rfl | rfl | rfl | rfl | rfl | rfl | rfl | rfl | rfl | rfl | rfl | rfl | rfl | rfl | rfl | rfl
  · exact List.mem_of_getElem? (i := 428) (by decide +kernel)
  · exact List.mem_of_getElem? (i := 429) (by decide +kernel)
  · exact List.mem_of_getElem? (i := 430) (by decide +kernel)
  · exact List.mem_of_getElem? (i := 431) (by decide +kernel)
  · exact List.mem_of_getElem? (i := 432) (by decide +kernel)
  · exact List.mem_of_getElem? (i := 433) (by decide +kernel)
  · exact List.mem_of_getElem? (i := 435) (by decide +kernel)
  · exact List.mem_of_getElem? (i := 16) (by decide +kernel)
  · exact List.mem_of_getElem? (i := 436) (by decide +kernel)
  · exact List.mem_of_getElem? (i := 437) (by decide +kernel)
  · exact List.mem_of_getElem? (i := 439) (by decide +kernel)
  · exact List.mem_of_getElem? (i := 17) (by decide +kernel)
  · exact List.mem_of_getElem? (i := 440) (by decide +kernel)
  · exact List.mem_of_getElem? (i := 441) (by decide +kernel)
  · exact List.mem_of_getElem? (i := 443) (by decide +kernel)
  · exact List.mem_of_getElem? (i := 18) (by decide +kernel)
  · exact List.mem_of_getElem? (i := 444) (by decide +kernel)
  · exact List.mem_of_getElem? (i := 467) (by decide +kernel)
  · exact List.mem_of_getElem? (i := 468) (by decide +kernel)
  · exact List.mem_of_getElem? (i := 469) (by decide +kernel)
  · exact List.mem_of_getElem? (i := 470) (by rfl)
  · exact List.mem_of_getElem? (i := 352) (by decide +kernel)
  · exact List.mem_of_getElem? (i := 353) (by decide +kernel)
  · exact List.mem_of_getElem? (i := 354) (by decide +kernel)
set_option maxRecDepth 20000 in
theorem in_wsL_law0_r16 : ∀ w ∈ wsL_law0_r16, w ∈ lw_tbl := fun w h => (goodIn_r (big := lw_tbl) wsL_law0_r16 [355, 356, 348, 349, 350, 351, 454, 455, 456, 457, 477, 478, 479, 480, 481, 482, 483, 484, 445, 446, 447, 448, 450, 452] (by decide +kernel) (by decide +kernel) w h).1
set_option maxRecDepth 20000 in
theorem in_wsL_law0_r17 : ∀ w ∈ wsL_law0_r17, w ∈ lw_tbl := fun w h => by
  unfold wsL_law0_r17 at h
  simp only [List.mem_cons, List.not_mem_nil, or_false] at h
  rcases h with rfl | rfl | rfl | rfl | rfl | rfl | rfl | rfl | rfl | rfl | rfl | rfl | rfl | rfl | rfl | rfl | rfl | rfl | rfl | rfl | rfl | rfl | rfl | rfl
  · exact List.mem_of_getElem? (i := 19) (by decide +kernel)
  · exact List.mem_of_getElem? (i := 453) (by decide +kernel)
  · exact List.mem_of_getElem? (i := 56) (by decide +kernel)
  · exact List.mem_of_getElem? (i := 458) (by decide +kernel)
  · exact List.mem_of_getElem? (i := 459) (by decide +kernel)
  · exact List.mem_of_getElem? (i := 460) (by decide +kernel)
  · exact List.mem_of_getElem? (i := 461) (by decide +kernel)
  · exact List.mem_of_getElem? (i := 462) (by decide +kernel)
  · exact List.mem_of_getElem? (i := 463) (by decide +kernel)
  · exact List.mem_of_getElem? (i := 464) (by decide +kernel)
  · exact List.mem_of_getElem? (i := 465) (by decide +kernel)
  · exact List.mem_of_getElem? (i := 466) (by decide +kernel)
  · exact List.mem_of_getElem? (i := 312) (by decide +kernel)
  · exact List.mem_of_getElem? (i := 313) (by decide +kernel)
  · exact List.mem_of_getElem? (i := 314) (by decide +kernel)
  · exact List.mem_of_getElem? (i := 315) (by rfl)
  · exact List.mem_of_getElem? (i := 491) (by decide +kernel)
  · exact List.mem_of_getElem? (i := 492) (by decide +kernel)
  · exact List.mem_of_getElem? (i := 493) (by decide +kernel)
  · exact List.mem_of_getElem? (i := 494) (by rfl)
  · exact List.mem_of_getElem? (i := 594) (by decide +kernel)
  · exact List.mem_of_getElem? (i := 668) (by decide +kernel)
  · exact List.mem_of_getElem? (i := 676) (by decide +kernel)
  · exact List.mem_of_getElem? (i := 671) (by decide +kernel)
set_option maxRecDepth 20000 in
theorem in_wsL_law0_r18 : ∀ w ∈ wsL_law0_r18, w ∈ lw_tbl := fun w h => (goodIn_r (big := lw_tbl) wsL_law0_r18 [670, 495, 496, 497, 498, 499, 500, 501, 502, 666, 503, 505, 20, 507, 673, 508, 510, 21, 511, 512, 513, 514, 515, 516] (by decide +kernel) (by decide +kernel) w h).1
set_option maxRecDepth 20000 in
theorem in_wsL_law0_r19 : ∀ w ∈ wsL_law0_r19, w ∈ lw_tbl := fun w h => by
  unfold wsL_law0_r19 at h
  simp only [List.mem_cons, List.not_mem_nil, or_false] at h
  rcases h with rfl | rfl | rfl | rfl | rfl | rfl | rfl | rfl | rfl | rfl | rfl | rfl | rfl | rfl | rfl | rfl | rfl | rfl | rfl | rfl | rfl | rfl | rfl | rfl
  · exact List.mem_of_getElem? (i := 517) (by decide +kernel)
  · exact List.mem_of_getElem? (i := 518) (by decide +kernel)
  · exact List.mem_of_getElem? (i := 519) (by decide +kernel)
  · exact List.mem_of_getElem? (i := 520) (by decide +kernel)
  · exact List.mem_of_getElem? (i := 521) (by decide +kernel)
  · exact List.mem_of_getElem? (i := 522) (by decide +kernel)
  · exact List.mem_of_getElem? (i := 523) (by rfl)
  · exact List.mem_of_getElem? (i := 526) (by decide +kernel)
  · exact List.mem_of_getElem? (i := 527) (by decide +kernel)
  · exact List.mem_of_getElem? (i := 524) (by decide +kernel)
  · exact List.mem_of_getElem? (i := 525) (by decide +kernel)
  · exact List.mem_of_getElem? (i := 528) (by decide +kernel)
  · exact List.mem_of_getElem? (i := 529) (by decide +kernel)
  · exact List.mem_of_getElem? (i := 530) (by decide +kernel)
  · exact List.mem_of_getElem? (i := 531) (by decide +kernel)
  · exact List.mem_of_getElem? (i := 532) (by decide +kernel)
  · exact List.mem_of_getElem? (i := 82) (by decide +kernel)
  · exact List.mem_of_getElem? (i := 534) (by decide +kernel)
  · exact List.mem_of_getElem? (i := 535) (by decide +kernel)
  · exact List.mem_of_getElem? (i := 536) (by decide +kernel)
  · exact List.mem_of_getElem? (i := 537) (by decide +kernel)
  · exact List.mem_of_getElem? (i := 538) (by decide +kernel)
  · exact List.mem_of_getElem? (i := 539) (by decide +kernel)
  · exact List.mem_of_getElem? (i := 541) (by decide +kernel)
set_option maxRecDepth 20000 in
theorem in_wsL_law0_r20 : ∀ w ∈ wsL_law0_r20, w ∈ lw_tbl := fun w h => (goodIn_r (big := lw_tbl) wsL_law0_r20 [22, 542, 543, 544, 545, 546, 547, 548, 549, 550, 551, 552, 553, 554, 555, 556, 557, 558, 559, 560, 561, 562, 563] (by decide +kernel) (by decide +kernel) w h).1
set_option maxRecDepth 20000 in
theorem in_wsX20 : ∀ w ∈ wsX20, w ∈ lw_tbl := by decide +kernel
set_option maxRecDepth 20000 in
theorem in_wsX30 : ∀ w ∈ wsX30, w ∈ lw_tbl := by decide +kernel
set_option maxRecDepth 20000 in
theorem in_wsX10 : ∀ w ∈ wsX10, w ∈ lw_tbl := by decide +kernel
set_option maxRecDepth 20000 in
theorem in_wsX00 : ∀ w ∈ wsX00, w ∈ lw_tbl := by decide +kernel
set_option maxRecDepth 20000 in
theorem in_wsX40 : ∀ w ∈ wsX40, w ∈ lw_tbl := by decide +kernel
theorem wsL_law_in0 : ∀ w ∈ wsL_law0, w ∈ lw_tbl := fun w => (fun h => (List.mem_append.mp h).elim (fun h => (List.mem_append.mp h).elim (fun h => (List.mem_append.mp h).elim (fun h => (List.mem_append.mp h).elim (fun h => (List.mem_append.mp h).elim (fun h => (List.mem_append.mp h).elim (fun h => (List.mem_append.mp h).elim (in_wsL_law0_r1 w) (fun h => (List.mem_append.mp h).elim (in_wsL_law0_r2 w) (fun h => (List.mem_append.mp h).elim (in_wsL_law0_r3 w) (fun h => (List.mem_append.mp h).elim (in_wsL_law0_r4 w) (fun h => (List.mem_append.mp h).elim (in_wsL_law0_r5 w) (fun h => (List.mem_append.mp h).elim (in_wsL_law0_r6 w) (fun h => (List.mem_append.mp h).elim (in_wsL_law0_r7 w) (fun h => (List.mem_append.mp h).elim (in_wsL_law0_r8 w) (fun h => (List.mem_append.mp h).elim (in_wsL_law0_r9 w) (fun h => (List.mem_append.mp h).elim (in_wsL_law0_r10 w) (fun h => (List.mem_append.mp h).elim (in_wsL_law0_r11 w) (fun h => (List.mem_append.mp h).elim (in_wsL_law0_r12 w) (fun h => (List.mem_append.mp h).elim (in_wsL_law0_r13 w) (fun h => (List.mem_append.mp h).elim (in_wsL_law0_r14 w) (fun h => (List.mem_append.mp h).elim (in_wsL_law0_r15 w) (fun h => (List.mem_append.mp h).elim (in_wsL_law0_r16 w) (fun h => (List.mem_append.mp h).elim (in_wsL_law0_r17 w) (fun h => (List.mem_append.mp h).elim (in_wsL_law0_r18 w) (fun h => (List.mem_append.mp h).elim (in_wsL_law0_r19 w) (in_wsL_law0_r20 w)))))))))))))))))))) (in_wsX20 w)) (in_wsX30 w)) (in_wsX10 w)) (in_wsX00 w)) (in_wsX40 w)) (fun h => by cases h))
set_option maxRecDepth 20000 in
theorem wsL_law_x0 : ∀ w ∈ (vx_atS RX2 32 "java/lang/IllegalArgumentException" ["java/lang/RuntimeException", "java/lang/Exception"]).filter goodWord, w ∈ lw_tbl := by decide +kernel
set_option maxRecDepth 20000 in
theorem wsL_law_x1 : ∀ w ∈ (vx_atS RX2 46 "java/lang/IllegalStateException" ["java/lang/RuntimeException", "java/lang/Exception"]).filter goodWord, w ∈ lw_tbl := by decide +kernel
set_option maxRecDepth 20000 in
theorem wsL_law_x2 : ∀ w ∈ (vx_atS RX2 59 "java/lang/IndexOutOfBoundsException" ["java/lang/RuntimeException", "java/lang/Exception"]).filter goodWord, w ∈ lw_tbl := by decide +kernel
theorem wsL_law_in : ∀ w ∈ wsL_law, w ∈ lw_tbl := fun w h => (List.mem_append.mp h).elim (fun h => (List.mem_append.mp h).elim (fun h => (List.mem_append.mp h).elim (fun h => wsL_law_in0 w h) (fun h => wsL_law_x0 w h)) (fun h => wsL_law_x1 w h)) (fun h => wsL_law_x2 w h)
