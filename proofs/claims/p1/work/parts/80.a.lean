theorem mem_pl {big : List Cond} (ws : List Cond) (ps : List Nat) (hp : ws = ps.filterMap (fun i => big[i]?)) : ∀ w ∈ ws, w ∈ big := by
  intro w hw
  rw [hp] at hw
  obtain ⟨i, -, hi⟩ := List.mem_filterMap.mp hw
  first | exact List.mem_of_getElem? hi | exact List.getElem?_mem hi
set_option maxRecDepth 100000 in
set_option maxHeartbeats 4000000 in
theorem wi_wsL_law_r1 : ∀ w ∈ wsL_law_r1, w ∈ lw_tbl := mem_pl _ [43, 44, 35, 560, 561, 41, 45, 46, 47, 48, 49, 50, 51, 52, 36, 210, 89, 90, 38, 211, 111, 112, 39, 212] rfl
set_option maxRecDepth 100000 in
set_option maxHeartbeats 4000000 in
theorem wi_wsL_law_r2 : ∀ w ∈ wsL_law_r2, w ∈ lw_tbl := mem_pl _ [156, 157, 40, 213, 178, 59, 37, 214, 72, 215, 216, 217, 218, 219, 53, 54, 55, 56, 57, 73, 74, 76, 78, 60] rfl
set_option maxRecDepth 100000 in
set_option maxHeartbeats 4000000 in
theorem wi_wsL_law_r3 : ∀ w ∈ wsL_law_r3, w ∈ lw_tbl := mem_pl _ [61, 62, 63, 64, 65, 91, 92, 93, 94, 95, 96, 98, 100, 113, 114, 115, 116, 121, 117, 118, 119, 120, 122, 124] rfl
set_option maxRecDepth 100000 in
set_option maxHeartbeats 4000000 in
theorem wi_wsL_law_r4 : ∀ w ∈ wsL_law_r4, w ∈ lw_tbl := mem_pl _ [126, 129, 130, 134, 137, 158, 159, 160, 161, 162, 163, 164, 165, 166, 179, 180, 181, 182, 183, 184, 185, 186, 187, 188] rfl
set_option maxRecDepth 100000 in
set_option maxHeartbeats 4000000 in
theorem wi_wsL_law_r5 : ∀ w ∈ wsL_law_r5, w ∈ lw_tbl := mem_pl _ [189, 190, 191, 192, 193, 194, 195, 196, 197, 198, 199, 200, 202, 0, 203, 204, 206, 1, 207, 208, 209, 562, 563, 564] rfl
set_option maxRecDepth 100000 in
set_option maxHeartbeats 4000000 in
theorem wi_wsL_law_r6 : ∀ w ∈ wsL_law_r6, w ∈ lw_tbl := mem_pl _ [565, 688, 585, 689, 586, 587, 588, 590, 593, 595, 597, 601, 602, 603, 604, 605, 606, 608, 609, 610, 611, 613, 566, 568] rfl
set_option maxRecDepth 100000 in
set_option maxHeartbeats 4000000 in
theorem wi_wsL_law_r7 : ∀ w ∈ wsL_law_r7, w ∈ lw_tbl := mem_pl _ [20, 569, 570, 572, 21, 573, 574, 576, 22, 577, 578, 579, 580, 581, 582, 583, 584, 241, 242, 243, 244, 245, 246, 247] rfl
set_option maxRecDepth 100000 in
set_option maxHeartbeats 4000000 in
theorem wi_wsL_law_r8 : ∀ w ∈ wsL_law_r8, w ∈ lw_tbl := mem_pl _ [690, 691, 692, 693, 248, 249, 250, 251, 694, 695, 696, 697, 594, 252, 253, 254, 255, 256, 257, 258, 259, 260, 261, 262] rfl
set_option maxRecDepth 100000 in
set_option maxHeartbeats 4000000 in
theorem wi_wsL_law_r9 : ∀ w ∈ wsL_law_r9, w ∈ lw_tbl := mem_pl _ [263, 264, 266, 2, 267, 268, 270, 3, 271, 272, 273, 274, 275, 276, 277, 278, 279, 280, 281, 282, 283, 284, 297, 285] rfl
set_option maxRecDepth 100000 in
set_option maxHeartbeats 4000000 in
theorem wi_wsL_law_r10 : ∀ w ∈ wsL_law_r10, w ∈ lw_tbl := mem_pl _ [286, 287, 288, 289, 290, 291, 292, 293, 294, 295, 296, 298, 299, 300, 301, 302, 303, 304, 305, 306, 308, 309, 310, 311] rfl
set_option maxRecDepth 100000 in
set_option maxHeartbeats 4000000 in
theorem wi_wsL_law_r11 : ∀ w ∈ wsL_law_r11, w ∈ lw_tbl := mem_pl _ [312, 313, 314, 315, 316, 42, 317, 318, 320, 4, 321, 322, 324, 5, 325, 326, 328, 6, 329, 330, 331, 332, 333, 334] rfl
set_option maxRecDepth 100000 in
set_option maxHeartbeats 4000000 in
theorem wi_wsL_law_r12 : ∀ w ∈ wsL_law_r12, w ∈ lw_tbl := mem_pl _ [335, 336, 338, 7, 339, 340, 342, 8, 343, 344, 345, 346, 347, 348, 349, 350, 351, 352, 354, 9, 355, 356, 357, 358] rfl
set_option maxRecDepth 100000 in
set_option maxHeartbeats 4000000 in
theorem wi_wsL_law_r13 : ∀ w ∈ wsL_law_r13, w ∈ lw_tbl := mem_pl _ [359, 360, 362, 10, 363, 364, 365, 366, 367, 368, 369, 370, 371, 373, 374, 375, 376, 42, 377, 378, 379, 380, 381, 383] rfl
set_option maxRecDepth 100000 in
set_option maxHeartbeats 4000000 in
theorem wi_wsL_law_r14 : ∀ w ∈ wsL_law_r14, w ∈ lw_tbl := mem_pl _ [384, 385, 386, 387, 388, 389, 698, 699, 700, 701, 596, 607, 598, 599, 702, 704, 23, 705, 706, 708, 24, 709, 710, 712] rfl
set_option maxRecDepth 100000 in
set_option maxHeartbeats 4000000 in
theorem wi_wsL_law_r15 : ∀ w ∈ wsL_law_r15, w ∈ lw_tbl := mem_pl _ [25, 713, 592, 714, 715, 716, 717, 719, 26, 720, 589, 591, 721, 723, 27, 724, 390, 391, 392, 393, 725, 726, 727, 728] rfl
set_option maxRecDepth 100000 in
set_option maxHeartbeats 4000000 in
theorem wi_wsL_law_r16 : ∀ w ∈ wsL_law_r16, w ∈ lw_tbl := mem_pl _ [394, 395, 396, 397, 729, 730, 731, 732, 398, 399, 400, 401, 402, 403, 404, 405, 406, 408, 11, 409, 410, 411, 412, 413] rfl
set_option maxRecDepth 100000 in
set_option maxHeartbeats 4000000 in
theorem wi_wsL_law_r17 : ∀ w ∈ wsL_law_r17, w ∈ lw_tbl := mem_pl _ [414, 415, 416, 417, 418, 419, 420, 421, 422, 423, 425, 12, 426, 427, 428, 429, 430, 431, 432, 733, 734, 735, 736, 600] rfl
set_option maxRecDepth 100000 in
set_option maxHeartbeats 4000000 in
theorem wi_wsL_law_r18 : ∀ w ∈ wsL_law_r18, w ∈ lw_tbl := mem_pl _ [737, 739, 28, 740, 433, 434, 435, 436, 741, 742, 743, 744, 437, 438, 439, 440, 745, 746, 747, 748, 441, 442, 443, 444] rfl
set_option maxRecDepth 100000 in
set_option maxHeartbeats 4000000 in
theorem wi_wsL_law_r19 : ∀ w ∈ wsL_law_r19, w ∈ lw_tbl := mem_pl _ [445, 446, 447, 448, 449, 450, 451, 452, 453, 454, 455, 456, 457, 458, 459, 460, 461, 462, 463, 464, 465, 466, 467, 468] rfl
set_option maxRecDepth 100000 in
set_option maxHeartbeats 4000000 in
theorem wi_wsL_law_r20 : ∀ w ∈ wsL_law_r20, w ∈ lw_tbl := mem_pl _ [470, 472, 13, 473, 474, 475, 476, 477, 478, 479, 481, 14, 482, 483, 484, 485, 486, 487, 489, 15, 490, 491, 493, 16] rfl
set_option maxRecDepth 100000 in
set_option maxHeartbeats 4000000 in
theorem wi_wsL_law_r21 : ∀ w ∈ wsL_law_r21, w ∈ lw_tbl := mem_pl _ [494, 495, 497, 17, 498, 499, 501, 18, 502, 503, 504, 749, 750, 751, 752, 758, 612, 616, 617, 618, 753, 755, 29, 756] rfl
set_option maxRecDepth 100000 in
set_option maxHeartbeats 4000000 in
theorem wi_wsL_law_r22 : ∀ w ∈ wsL_law_r22, w ∈ lw_tbl := mem_pl _ [757, 759, 761, 30, 762, 763, 765, 31, 766, 767, 769, 32, 770, 614, 615, 771, 773, 33, 774, 775, 776, 777, 506, 507] rfl
set_option maxRecDepth 100000 in
set_option maxHeartbeats 4000000 in
theorem wi_wsL_law_r23 : ∀ w ∈ wsL_law_r23, w ∈ lw_tbl := mem_pl _ [508, 509, 778, 779, 780, 781, 510, 511, 512, 513, 782, 783, 784, 785, 514, 515, 516, 517, 518, 519, 520, 521, 522, 523] rfl
set_option maxRecDepth 100000 in
set_option maxHeartbeats 4000000 in
theorem wi_wsL_law_r24 : ∀ w ∈ wsL_law_r24, w ∈ lw_tbl := mem_pl _ [524, 525, 526, 527, 528, 529, 786, 787, 788, 789, 530, 531, 532, 533, 534, 790, 791, 792, 793, 794, 535, 536, 537, 538] rfl
set_option maxRecDepth 100000 in
set_option maxHeartbeats 4000000 in
theorem wi_wsL_law_r25 : ∀ w ∈ wsL_law_r25, w ∈ lw_tbl := mem_pl _ [539, 540, 541, 542, 795, 796, 797, 798, 799, 800, 801, 543, 544, 545, 546, 547, 802, 803, 804, 805, 548, 549, 550, 551] rfl
set_option maxRecDepth 100000 in
set_option maxHeartbeats 4000000 in
theorem wi_wsL_law_r26 : ∀ w ∈ wsL_law_r26, w ∈ lw_tbl := mem_pl _ [806, 807, 808, 809, 552, 553, 554, 555, 556, 558, 19, 559, 810, 811, 812, 813] rfl
set_option maxRecDepth 100000 in
set_option maxHeartbeats 4000000 in
theorem wi_wsX50 : ∀ w ∈ wsX50, w ∈ lw_tbl := mem_pl _ [220, 222, 224, 226, 228, 230, 232, 234, 236, 238] rfl
set_option maxRecDepth 100000 in
set_option maxHeartbeats 4000000 in
theorem wi_wsX60 : ∀ w ∈ wsX60, w ∈ lw_tbl := mem_pl _ [619, 621, 623, 625, 627, 629, 631, 633, 635, 637, 639, 641, 643, 645, 647, 649, 651, 653, 655, 657, 659, 661, 663, 665, 667, 669, 671, 673, 675, 677, 679, 681, 683, 685] rfl
set_option maxRecDepth 100000 in
set_option maxHeartbeats 4000000 in
theorem wi_wsX40 : ∀ w ∈ wsX40, w ∈ lw_tbl := mem_pl _ [80, 82, 84, 86] rfl
set_option maxRecDepth 100000 in
set_option maxHeartbeats 4000000 in
theorem wi_wsX10 : ∀ w ∈ wsX10, w ∈ lw_tbl := mem_pl _ [102, 104, 106, 108] rfl
set_option maxRecDepth 100000 in
set_option maxHeartbeats 4000000 in
theorem wi_wsX00 : ∀ w ∈ wsX00, w ∈ lw_tbl := mem_pl _ [139, 141, 143, 145, 147, 149, 151, 153] rfl
set_option maxRecDepth 100000 in
set_option maxHeartbeats 4000000 in
theorem wi_wsX20 : ∀ w ∈ wsX20, w ∈ lw_tbl := mem_pl _ [167, 169, 171, 173, 175] rfl
set_option maxRecDepth 100000 in
set_option maxHeartbeats 4000000 in
theorem wi_wsX30 : ∀ w ∈ wsX30, w ∈ lw_tbl := mem_pl _ [67, 69] rfl
theorem wsL_law_in : ∀ w ∈ wsL_law, w ∈ lw_tbl := List.forall_mem_append.mpr ⟨List.forall_mem_append.mpr ⟨List.forall_mem_append.mpr ⟨List.forall_mem_append.mpr ⟨List.forall_mem_append.mpr ⟨List.forall_mem_append.mpr ⟨List.forall_mem_append.mpr ⟨List.forall_mem_append.mpr ⟨List.forall_mem_append.mpr ⟨wi_wsL_law_r1, List.forall_mem_append.mpr ⟨wi_wsL_law_r2, List.forall_mem_append.mpr ⟨wi_wsL_law_r3, List.forall_mem_append.mpr ⟨wi_wsL_law_r4, List.forall_mem_append.mpr ⟨wi_wsL_law_r5, List.forall_mem_append.mpr ⟨wi_wsL_law_r6, List.forall_mem_append.mpr ⟨wi_wsL_law_r7, List.forall_mem_append.mpr ⟨wi_wsL_law_r8, List.forall_mem_append.mpr ⟨wi_wsL_law_r9, List.forall_mem_append.mpr ⟨wi_wsL_law_r10, List.forall_mem_append.mpr ⟨wi_wsL_law_r11, List.forall_mem_append.mpr ⟨wi_wsL_law_r12, List.forall_mem_append.mpr ⟨wi_wsL_law_r13, List.forall_mem_append.mpr ⟨wi_wsL_law_r14, List.forall_mem_append.mpr ⟨wi_wsL_law_r15, List.forall_mem_append.mpr ⟨wi_wsL_law_r16, List.forall_mem_append.mpr ⟨wi_wsL_law_r17, List.forall_mem_append.mpr ⟨wi_wsL_law_r18, List.forall_mem_append.mpr ⟨wi_wsL_law_r19, List.forall_mem_append.mpr ⟨wi_wsL_law_r20, List.forall_mem_append.mpr ⟨wi_wsL_law_r21, List.forall_mem_append.mpr ⟨wi_wsL_law_r22, List.forall_mem_append.mpr ⟨wi_wsL_law_r23, List.forall_mem_append.mpr ⟨wi_wsL_law_r24, List.forall_mem_append.mpr ⟨wi_wsL_law_r25, wi_wsL_law_r26⟩⟩⟩⟩⟩⟩⟩⟩⟩⟩⟩⟩⟩⟩⟩⟩⟩⟩⟩⟩⟩⟩⟩⟩⟩, wi_wsX50⟩, wi_wsX60⟩, wi_wsX40⟩, wi_wsX10⟩, wi_wsX00⟩, wi_wsX20⟩, wi_wsX30⟩, fun _ h => absurd h List.not_mem_nil⟩
theorem inlX0 : ∀ w ∈ wsX00, w ∈ wsL_law := fun _ h => List.mem_append_left _ (List.mem_append_left _ (List.mem_append_left _ (List.mem_append_right _ h)))
theorem inX0 : ∀ w ∈ wsX00, w ∈ lw_tbl := fun w h => wsL_law_in w (inlX0 w h)
theorem inlX1 : ∀ w ∈ wsX10, w ∈ wsL_law := fun _ h => List.mem_append_left _ (List.mem_append_left _ (List.mem_append_left _ (List.mem_append_left _ (List.mem_append_right _ h))))
theorem inX1 : ∀ w ∈ wsX10, w ∈ lw_tbl := fun w h => wsL_law_in w (inlX1 w h)
theorem inlX2 : ∀ w ∈ wsX20, w ∈ wsL_law := fun _ h => List.mem_append_left _ (List.mem_append_left _ (List.mem_append_right _ h))
theorem inX2 : ∀ w ∈ wsX20, w ∈ lw_tbl := fun w h => wsL_law_in w (inlX2 w h)
theorem inlX3 : ∀ w ∈ wsX30, w ∈ wsL_law := fun _ h => List.mem_append_left _ (List.mem_append_right _ h)
theorem inX3 : ∀ w ∈ wsX30, w ∈ lw_tbl := fun w h => wsL_law_in w (inlX3 w h)
theorem inlX4 : ∀ w ∈ wsX40, w ∈ wsL_law := fun _ h => List.mem_append_left _ (List.mem_append_left _ (List.mem_append_left _ (List.mem_append_left _ (List.mem_append_left _ (List.mem_append_right _ h)))))
theorem inX4 : ∀ w ∈ wsX40, w ∈ lw_tbl := fun w h => wsL_law_in w (inlX4 w h)
theorem inlX5 : ∀ w ∈ wsX50, w ∈ wsL_law := fun _ h => List.mem_append_left _ (List.mem_append_left _ (List.mem_append_left _ (List.mem_append_left _ (List.mem_append_left _ (List.mem_append_left _ (List.mem_append_left _ (List.mem_append_right _ h)))))))
theorem inX5 : ∀ w ∈ wsX50, w ∈ lw_tbl := fun w h => wsL_law_in w (inlX5 w h)
theorem inlX6 : ∀ w ∈ wsX60, w ∈ wsL_law := fun _ h => List.mem_append_left _ (List.mem_append_left _ (List.mem_append_left _ (List.mem_append_left _ (List.mem_append_left _ (List.mem_append_left _ (List.mem_append_right _ h))))))
theorem inX6 : ∀ w ∈ wsX60, w ∈ lw_tbl := fun w h => wsL_law_in w (inlX6 w h)
