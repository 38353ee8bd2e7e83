theorem inJ9 : ∀ w ∈ wsJ90, w ∈ lw_tbl := by decide +kernel
set_option maxRecDepth 20000 in
theorem ggL_law_X5_init : GoodIn wsL_law wsX5_init := goodIn_r _ [8, 9, 10, 11, 12, 13, 14, 15, 16, 17, 18, 19, 20, 21, 22, 23, 24, 25, 26, 27, 28, 29, 30, 31, 32, 33, 34, 35, 36, 37, 38, 39, 40, 41, 42, 43, 44, 45, 46, 47, 48, 49, 50, 51, 52, 53, 54, 55, 56, 57, 58, 59, 60, 61, 62, 63, 64, 65, 66, 67, 68, 69, 70, 71, 72, 73, 74, 75, 76, 77, 78, 79, 80, 81, 82, 83, 84, 85, 86, 87, 88, 89, 90, 91, 92, 93, 94, 95, 96, 97, 98, 99, 100, 101, 102, 103, 104, 105, 106, 107, 108, 109, 110, 111, 112, 113, 114, 115, 116, 660, 661, 662, 663, 616, 617, 618, 619, 620, 621, 622, 623, 624, 625, 664, 665, 666, 667, 668, 669, 670, 671, 672, 673, 674, 675, 676, 677, 678, 679, 680, 681, 682] rfl (by decide +kernel)
set_option maxRecDepth 20000 in
theorem gL_law_X5_init : GoodIn wsL_law (wsX5_init) := ggL_law_X5_init
set_option maxRecDepth 20000 in
theorem ggL_law_X5_delay : GoodIn wsL_law wsX5_delay := goodIn_r _ [164, 37, 35, 165, 166, 2, 167, 616, 617, 618, 619, 620, 621, 622, 623, 624, 625] rfl (by decide +kernel)
set_option maxRecDepth 20000 in
theorem gL_law_X5_delay : GoodIn wsL_law (wsV RL 13 RX5 yX5_delay wsX5_delay) := goodIn_app (goodIn_r _ [161, 162, 163, 2] rfl (by decide +kernel)) ggL_law_X5_delay
set_option maxRecDepth 20000 in
theorem ggL_law_X5_feed : GoodIn wsL_law wsX5_feed := goodIn_r _ [175, 34, 33, 616, 617, 618, 619, 620, 621, 622, 623, 624, 625] rfl (by decide +kernel)
set_option maxRecDepth 20000 in
theorem gL_law_X5_feed : GoodIn wsL_law (wsV RL 18 RX5 yX5_feed wsX5_feed) := goodIn_app (goodIn_r _ [172, 173, 174, 2] rfl (by decide +kernel)) ggL_law_X5_feed
set_option maxRecDepth 20000 in
theorem ggL_law_X5_append : GoodIn wsL_law wsX5_append := goodIn_r _ [184, 37, 34, 19, 23, 33, 185, 186, 187, 18, 188, 58, 189, 190, 191, 192, 59, 193, 194, 195, 196, 57, 197, 198, 199, 2, 200, 15, 31, 36, 201, 202, 203, 14, 204, 205, 206, 207, 208, 209, 88, 89, 90, 43, 210, 211, 212, 30, 213, 52, 214, 215, 216, 217, 218, 51, 107, 108, 109, 110, 111, 112, 113, 114, 115, 219, 220, 221, 222, 223, 224, 225, 226, 227, 228, 229, 230, 231, 232, 233, 234, 235, 236, 237, 238, 239, 240, 241, 242, 243, 244, 245, 246, 247, 248, 249, 250, 251, 252, 253, 254, 255, 256, 257, 258, 259, 96, 97, 98, 260, 104, 105, 106, 261, 262, 263, 264, 99, 100, 101, 102, 103, 265, 266, 267, 268, 269, 270, 271, 272, 273, 274, 275, 276, 45, 46, 44, 277, 278, 279, 280, 281, 282, 283, 284, 285, 286, 287, 288, 289, 290, 291, 292, 293, 294, 295, 296, 60, 297, 298, 299, 22, 300, 74, 75, 76, 301, 302, 303, 304, 305, 306, 307, 308, 309, 310, 311, 312, 313, 314, 72, 65, 315, 316, 317, 616, 617, 618, 619, 620, 621, 622, 623, 624, 625, 668, 669, 670, 671, 672, 673, 674, 675, 664, 665, 666, 667, 660, 661, 662, 663, 681, 682] rfl (by decide +kernel)
set_option maxRecDepth 20000 in
theorem gL_law_X5_append : GoodIn wsL_law (wsV RL 22 RX5 yX5_append wsX5_append) := goodIn_app (goodIn_r _ [181, 182, 183, 2] rfl (by decide +kernel)) ggL_law_X5_append
set_option maxRecDepth 20000 in
theorem ggL_law_X5_flush : GoodIn wsL_law wsX5_flush := goodIn_r _ [355, 37, 197, 198, 199, 2, 200, 23, 19, 15, 31, 36, 185, 186, 187, 18, 188, 58, 201, 202, 203, 14, 204, 205, 206, 207, 208, 209, 88, 89, 90, 43, 210, 211, 212, 30, 213, 52, 214, 215, 216, 217, 218, 51, 107, 108, 109, 110, 111, 112, 113, 114, 115, 219, 220, 221, 222, 223, 224, 225, 226, 227, 228, 229, 230, 231, 232, 233, 234, 235, 236, 237, 238, 239, 240, 241, 242, 243, 244, 245, 246, 247, 248, 249, 250, 59, 251, 252, 253, 254, 255, 256, 257, 258, 57, 259, 96, 97, 98, 260, 104, 105, 106, 261, 262, 263, 264, 99, 100, 101, 102, 103, 265, 266, 267, 268, 269, 270, 271, 272, 273, 274, 275, 276, 45, 46, 44, 277, 278, 279, 280, 281, 282, 283, 284, 285, 286, 287, 288, 289, 290, 291, 292, 293, 294, 295, 296, 60, 297, 298, 299, 22, 300, 74, 75, 76, 301, 302, 303, 304, 305, 306, 307, 308, 309, 310, 311, 312, 313, 314, 72, 65, 315, 316, 317, 616, 617, 618, 619, 620, 621, 622, 623, 624, 625, 668, 669, 670, 671, 672, 673, 674, 675, 664, 665, 666, 667, 660, 661, 662, 663, 681, 682] rfl (by decide +kernel)
set_option maxRecDepth 20000 in
theorem gL_law_X5_flush : GoodIn wsL_law (wsV RL 27 RX5 yX5_flush wsX5_flush) := goodIn_app (goodIn_r _ [352, 353, 354, 2] rfl (by decide +kernel)) ggL_law_X5_flush
set_option maxRecDepth 20000 in
theorem ggL_law_X5_tick : GoodIn wsL_law wsX5_tick := goodIn_r _ [363, 37, 19, 35, 165, 166, 2, 167, 197, 198, 199, 200, 23, 15, 31, 36, 185, 186, 187, 18, 188, 58, 201, 202, 203, 14, 204, 205, 206, 207, 208, 209, 88, 89, 90, 43, 210, 211, 212, 30, 213, 52, 214, 215, 216, 217, 218, 51, 107, 108, 109, 110, 111, 112, 113, 114, 115, 219, 220, 221, 222, 223, 224, 225, 226, 227, 228, 229, 230, 231, 232, 233, 234, 235, 236, 237, 238, 239, 240, 241, 242, 243, 244, 245, 246, 247, 248, 249, 250, 59, 251, 252, 253, 254, 255, 256, 257, 258, 57, 259, 96, 97, 98, 260, 104, 105, 106, 261, 262, 263, 264, 99, 100, 101, 102, 103, 265, 266, 267, 268, 269, 270, 271, 272, 273, 274, 275, 276, 45, 46, 44, 277, 278, 279, 280, 281, 282, 283, 284, 285, 286, 287, 288, 289, 290, 291, 292, 293, 294, 295, 296, 60, 297, 298, 299, 22, 300, 74, 75, 76, 301, 302, 303, 304, 305, 306, 307, 308, 309, 310, 311, 312, 313, 314, 72, 65, 315, 316, 317, 616, 617, 618, 619, 620, 621, 622, 623, 624, 625, 664, 665, 666, 667, 668, 669, 670, 671, 672, 673, 674, 675, 660, 661, 662, 663, 681, 682] rfl (by decide +kernel)
set_option maxRecDepth 20000 in
theorem gL_law_X5_tick : GoodIn wsL_law (wsV RL 31 RX5 yX5_tick wsX5_tick) := goodIn_app (goodIn_r _ [360, 361, 362, 2] rfl (by decide +kernel)) ggL_law_X5_tick
set_option maxRecDepth 20000 in
theorem ggL_law_X5_checkpoint : GoodIn wsL_law wsX5_checkpoint := goodIn_r _ [371, 37, 23, 15, 372, 373, 374, 22, 375, 72, 75, 376, 377, 378, 379, 65, 315, 316, 317, 380, 381, 382, 383, 384, 385, 386, 387, 70, 388, 87, 88, 89, 14, 90, 43, 389, 390, 391, 30, 392, 215, 216, 217, 218, 51, 393, 394, 395, 2, 396, 31, 201, 202, 203, 204, 205, 206, 207, 208, 209, 210, 211, 212, 213, 52, 214, 107, 108, 109, 110, 111, 112, 113, 114, 115, 219, 220, 221, 222, 223, 224, 225, 226, 227, 228, 229, 230, 231, 232, 233, 234, 235, 236, 237, 238, 397, 91, 92, 93, 94, 95, 96, 97, 98, 99, 100, 101, 102, 103, 104, 105, 106, 269, 270, 271, 272, 273, 274, 275, 276, 45, 46, 44, 277, 278, 279, 280, 281, 282, 283, 284, 285, 286, 287, 288, 289, 290, 291, 292, 19, 293, 294, 295, 18, 296, 58, 59, 60, 398, 399, 400, 401, 74, 73, 71, 402, 304, 305, 306, 616, 617, 618, 619, 620, 621, 622, 623, 624, 625, 668, 669, 670, 671, 672, 673, 674, 675, 660, 661, 662, 663, 681, 682, 664, 665, 666, 667] rfl (by decide +kernel)
set_option maxRecDepth 20000 in
theorem gL_law_X5_checkpoint : GoodIn wsL_law (wsV RL 36 RX5 yX5_checkpoint wsX5_checkpoint) := goodIn_app (goodIn_r _ [368, 369, 370, 2] rfl (by decide +kernel)) ggL_law_X5_checkpoint
set_option maxRecDepth 20000 in
theorem ggL_law_X5_cut : GoodIn wsL_law wsX5_cut := goodIn_r _ [415, 37, 289, 290, 291, 2, 292, 19, 15, 293, 294, 295, 18, 296, 58, 59, 60, 616, 617, 618, 619, 620, 621, 622, 623, 624, 625, 660, 661, 662, 663, 664, 665, 666, 667] rfl (by decide +kernel)
set_option maxRecDepth 20000 in
theorem gL_law_X5_cut : GoodIn wsL_law (wsV RL 40 RX5 yX5_cut wsX5_cut) := goodIn_app (goodIn_r _ [412, 413, 414, 2] rfl (by decide +kernel)) ggL_law_X5_cut
set_option maxRecDepth 20000 in
theorem ggL_law_X5_arm : GoodIn wsL_law wsX5_arm := goodIn_r _ [423, 37, 15, 616, 617, 618, 619, 620, 621, 622, 623, 624, 625, 660, 661, 662, 663] rfl (by decide +kernel)
set_option maxRecDepth 20000 in
theorem gL_law_X5_arm : GoodIn wsL_law (wsV RL 45 RX5 yX5_arm wsX5_arm) := goodIn_app (goodIn_r _ [420, 421, 422, 2] rfl (by decide +kernel)) ggL_law_X5_arm
set_option maxRecDepth 20000 in
theorem ggL_law_X5_start : GoodIn wsL_law wsX5_start := goodIn_r _ [431, 37, 15, 23, 27, 397, 206, 207, 14, 208, 209, 88, 89, 90, 43, 210, 211, 212, 30, 213, 52, 214, 215, 216, 217, 218, 51, 107, 108, 109, 110, 111, 112, 113, 114, 115, 219, 220, 221, 222, 223, 224, 225, 226, 227, 228, 229, 230, 231, 232, 233, 234, 235, 236, 2, 237, 238, 87, 432, 433, 434, 435, 436, 437, 116, 67, 68, 22, 69, 70, 71, 72, 73, 74, 75, 76, 438, 439, 440, 26, 441, 82, 85, 442, 443, 444, 445, 446, 447, 448, 449, 450, 265, 266, 267, 268, 451, 390, 391, 392, 452, 453, 454, 455, 456, 457, 458, 459, 460, 461, 462, 463, 464, 465, 466, 467, 468, 81, 469, 470, 471, 472, 473, 474, 475, 476, 477, 478, 479, 480, 83, 84, 481, 482, 483, 484, 485, 486, 487, 488, 489, 312, 313, 314, 65, 315, 316, 317, 490, 298, 299, 300, 301, 302, 303, 304, 305, 306, 393, 394, 395, 396, 31, 201, 202, 203, 204, 205, 91, 92, 93, 94, 95, 96, 97, 98, 99, 100, 101, 102, 103, 104, 105, 106, 269, 270, 271, 272, 273, 274, 275, 276, 45, 46, 44, 277, 278, 279, 280, 281, 282, 283, 284, 285, 286, 287, 288, 289, 290, 291, 292, 19, 293, 294, 295, 18, 296, 58, 59, 60, 616, 617, 618, 619, 620, 621, 622, 623, 624, 625, 668, 669, 670, 671, 672, 673, 674, 675, 660, 661, 662, 663, 681, 682, 676, 677, 678, 679, 680, 664, 665, 666, 667] rfl (by decide +kernel)
set_option maxRecDepth 20000 in
theorem gL_law_X5_start : GoodIn wsL_law (wsV RL 50 RX5 yX5_start wsX5_start) := goodIn_app (goodIn_r _ [428, 429, 430, 2] rfl (by decide +kernel)) ggL_law_X5_start
set_option maxRecDepth 20000 in
theorem ggL_law_X5_first : GoodIn wsL_law wsX5_first := goodIn_r _ [529, 37, 23, 616, 617, 618, 619, 620, 621, 622, 623, 624, 625, 668, 669, 670, 671, 672, 673, 674, 675] rfl (by decide +kernel)
set_option maxRecDepth 20000 in
theorem gL_law_X5_first : GoodIn wsL_law (wsV RL 54 RX5 yX5_first wsX5_first) := goodIn_app (goodIn_r _ [526, 527, 528, 2] rfl (by decide +kernel)) ggL_law_X5_first
set_option maxRecDepth 20000 in
theorem ggL_law_X5_safe : GoodIn wsL_law wsX5_safe := goodIn_r _ [537, 37, 23, 616, 617, 618, 619, 620, 621, 622, 623, 624, 625, 668, 669, 670, 671, 672, 673, 674, 675] rfl (by decide +kernel)
set_option maxRecDepth 20000 in
theorem gL_law_X5_safe : GoodIn wsL_law (wsV RL 58 RX5 yX5_safe wsX5_safe) := goodIn_app (goodIn_r _ [534, 535, 536, 2] rfl (by decide +kernel)) ggL_law_X5_safe
set_option maxRecDepth 20000 in
theorem ggL_law_X5_size : GoodIn wsL_law wsX5_size := goodIn_r _ [545, 37, 23, 15, 546, 385, 386, 22, 387, 70, 72, 547, 548, 549, 550, 551, 552, 553, 554, 388, 373, 374, 375, 75, 376, 377, 378, 379, 65, 315, 316, 317, 555, 88, 89, 14, 90, 43, 556, 448, 449, 30, 450, 231, 232, 233, 234, 51, 557, 470, 471, 472, 301, 2, 302, 303, 304, 305, 306, 616, 617, 618, 619, 620, 621, 622, 623, 624, 625, 668, 669, 670, 671, 672, 673, 674, 675, 660, 661, 662, 663, 681, 682] rfl (by decide +kernel)
set_option maxRecDepth 20000 in
theorem gL_law_X5_size : GoodIn wsL_law (wsV RL 62 RX5 yX5_size wsX5_size) := goodIn_app (goodIn_r _ [542, 543, 544, 2] rfl (by decide +kernel)) ggL_law_X5_size
set_option maxRecDepth 20000 in
theorem ggL_law_X5_at : GoodIn wsL_law wsX5_at := goodIn_r _ [565, 37, 23, 15, 546, 385, 386, 22, 387, 70, 72, 547, 548, 549, 550, 551, 552, 553, 554, 388, 373, 374, 375, 75, 376, 377, 378, 379, 65, 315, 316, 317, 555, 88, 89, 14, 90, 43, 556, 448, 449, 30, 450, 231, 232, 233, 234, 51, 557, 470, 471, 472, 301, 2, 302, 303, 304, 305, 306, 566, 616, 617, 618, 619, 620, 621, 622, 623, 624, 625, 668, 669, 670, 671, 672, 673, 674, 675, 660, 661, 662, 663, 681, 682] rfl (by decide +kernel)
set_option maxRecDepth 20000 in
theorem gL_law_X5_at : GoodIn wsL_law (wsV RL 66 RX5 yX5_at wsX5_at) := goodIn_app (goodIn_r _ [562, 563, 564, 2] rfl (by decide +kernel)) ggL_law_X5_at
set_option maxRecDepth 20000 in
theorem ggL_law_X5_disk : GoodIn wsL_law wsX5_disk := goodIn_r _ [575, 15, 576, 577, 2, 578, 87, 88, 89, 14, 90, 43, 579, 232, 233, 30, 234, 51, 616, 617, 618, 619, 620, 621, 622, 623, 624, 625, 660, 661, 662, 663, 681, 682] rfl (by decide +kernel)
set_option maxRecDepth 20000 in
theorem gL_law_X5_disk : GoodIn wsL_law (wsV RL 71 RX5 yX5_disk wsX5_disk) := goodIn_app (goodIn_r _ [572, 573, 574, 2] rfl (by decide +kernel)) ggL_law_X5_disk
set_option maxRecDepth 20000 in
theorem ggL_law_X5_poke : GoodIn wsL_law wsX5_poke := goodIn_r _ [590, 37, 15, 576, 577, 2, 578, 87, 88, 89, 14, 90, 43, 579, 232, 233, 30, 234, 51, 591, 104, 105, 106, 616, 617, 618, 619, 620, 621, 622, 623, 624, 625, 660, 661, 662, 663, 681, 682] rfl (by decide +kernel)
set_option maxRecDepth 20000 in
theorem gL_law_X5_poke : GoodIn wsL_law (wsV RL 75 RX5 yX5_poke wsX5_poke) := goodIn_app (goodIn_r _ [587, 588, 589, 2] rfl (by decide +kernel)) ggL_law_X5_poke
set_option maxRecDepth 20000 in
theorem ggL_law_X5_torn : GoodIn wsL_law wsX5_torn := goodIn_r _ [599, 15, 576, 577, 2, 578, 87, 88, 89, 14, 90, 43, 616, 617, 618, 619, 620, 621, 622, 623, 624, 625, 681, 682, 660, 661, 662, 663] rfl (by decide +kernel)
set_option maxRecDepth 20000 in
theorem gL_law_X5_torn : GoodIn wsL_law (wsV RL 80 RX5 yX5_torn wsX5_torn) := goodIn_app (goodIn_r _ [596, 597, 598, 2] rfl (by decide +kernel)) ggL_law_X5_torn
set_option maxRecDepth 20000 in
theorem ggL_law_X5_count : GoodIn wsL_law wsX5_count := goodIn_r _ [607, 37, 15, 36, 608, 609, 610, 2, 611, 19, 23, 201, 202, 203, 14, 204, 205, 206, 207, 208, 209, 88, 89, 90, 43, 210, 211, 212, 30, 213, 52, 214, 215, 216, 217, 218, 51, 107, 108, 109, 110, 111, 112, 113, 114, 115, 219, 220, 221, 222, 223, 224, 225, 226, 227, 228, 229, 230, 231, 232, 233, 234, 235, 236, 237, 238, 616, 617, 618, 619, 620, 621, 622, 623, 624, 625, 660, 661, 662, 663, 664, 665, 666, 667, 668, 669, 670, 671, 672, 673, 674, 675, 681, 682] rfl (by decide +kernel)
set_option maxRecDepth 20000 in
theorem gL_law_X5_count : GoodIn wsL_law (wsV RL 84 RX5 yX5_count wsX5_count) := goodIn_app (goodIn_r _ [604, 605, 606, 2] rfl (by decide +kernel)) ggL_law_X5_count
