set_option maxRecDepth 20000 in
theorem ggL_law_X6_init : GoodIn wsL_law wsX6_init := goodIn_r _ [119, 120, 10, 11, 121, 122, 123, 124, 125, 126, 127, 128, 129, 32, 130, 131, 132, 133, 134, 135, 136, 137, 138, 139, 140, 141, 142, 143, 144, 5, 145, 146, 147, 148, 149, 150, 151, 152, 153, 154, 155, 156, 157, 158, 159, 160, 626, 627, 628, 629, 630, 631, 632, 633, 634, 635, 636, 637, 638, 639, 640, 641, 642, 643, 644, 645, 646, 647, 648, 649, 650, 651, 652, 653, 654, 655, 656, 657, 658, 659] rfl (by decide +kernel)
set_option maxRecDepth 20000 in
theorem gL_law_X6_init : GoodIn wsL_law (wsX6_init) := ggL_law_X6_init
set_option maxRecDepth 20000 in
theorem ggL_law_X6_delay : GoodIn wsL_law wsX6_delay := goodIn_r _ [171, 125, 127, 626, 627, 628, 629, 630, 631, 632, 633, 634, 635, 636, 637, 638, 639, 640, 641, 642, 643, 644, 645, 646, 647, 648, 649, 650, 651, 652, 653, 654, 655, 656, 657, 658, 659] rfl (by decide +kernel)
set_option maxRecDepth 20000 in
theorem gL_law_X6_delay : GoodIn wsL_law (wsV RL 17 RX6 yX6_delay wsX6_delay) := goodIn_app (goodIn_r _ [168, 169, 170, 5] rfl (by decide +kernel)) ggL_law_X6_delay
set_option maxRecDepth 20000 in
theorem ggL_law_X6_feed : GoodIn wsL_law wsX6_feed := goodIn_r _ [179, 180, 128, 626, 627, 628, 629, 630, 631, 632, 633, 634, 635, 636, 637, 638, 639, 640, 641, 642, 643, 644, 645, 646, 647, 648, 649, 650, 651, 652, 653, 654, 655, 656, 657, 658, 659] rfl (by decide +kernel)
set_option maxRecDepth 20000 in
theorem gL_law_X6_feed : GoodIn wsL_law (wsV RL 21 RX6 yX6_feed wsX6_feed) := goodIn_app (goodIn_r _ [176, 177, 178, 5] rfl (by decide +kernel)) ggL_law_X6_feed
set_option maxRecDepth 20000 in
theorem ggL_law_X6_append : GoodIn wsL_law wsX6_append := goodIn_r _ [321, 125, 180, 322, 323, 324, 325, 130, 128, 326, 327, 328, 5, 329, 136, 132, 330, 331, 332, 333, 129, 334, 335, 336, 337, 135, 140, 131, 338, 133, 137, 138, 139, 146, 147, 148, 149, 150, 151, 152, 153, 339, 340, 341, 157, 158, 159, 160, 342, 343, 344, 345, 126, 346, 122, 124, 347, 348, 349, 350, 351, 626, 627, 628, 629, 630, 631, 632, 633, 634, 635, 636, 637, 638, 639, 640, 641, 642, 643, 644, 645, 646, 647, 648, 649, 650, 651, 652, 653, 654, 655, 656, 657, 658, 659] rfl (by decide +kernel)
set_option maxRecDepth 20000 in
theorem gL_law_X6_append : GoodIn wsL_law (wsV RL 26 RX6 yX6_append wsX6_append) := goodIn_app (goodIn_r _ [318, 319, 320, 5] rfl (by decide +kernel)) ggL_law_X6_append
set_option maxRecDepth 20000 in
theorem ggL_law_X6_flush : GoodIn wsL_law wsX6_flush := goodIn_r _ [359, 125, 334, 335, 336, 5, 337, 135, 322, 136, 140, 324, 130, 129, 131, 338, 323, 133, 137, 138, 139, 325, 146, 147, 148, 149, 150, 151, 152, 153, 339, 340, 341, 157, 158, 159, 160, 342, 343, 344, 345, 126, 346, 122, 124, 347, 348, 349, 350, 351, 626, 627, 628, 629, 630, 631, 632, 633, 634, 635, 636, 637, 638, 639, 640, 641, 642, 643, 644, 645, 646, 647, 648, 649, 650, 651, 652, 653, 654, 655, 656, 657, 658, 659] rfl (by decide +kernel)
set_option maxRecDepth 20000 in
theorem gL_law_X6_flush : GoodIn wsL_law (wsV RL 30 RX6 yX6_flush wsX6_flush) := goodIn_app (goodIn_r _ [356, 357, 358, 5] rfl (by decide +kernel)) ggL_law_X6_flush
set_option maxRecDepth 20000 in
theorem ggL_law_X6_tick : GoodIn wsL_law wsX6_tick := goodIn_r _ [367, 125, 324, 325, 127, 334, 335, 336, 5, 337, 135, 322, 136, 140, 130, 129, 131, 338, 323, 133, 137, 138, 139, 146, 147, 148, 149, 150, 151, 152, 153, 339, 340, 341, 157, 158, 159, 160, 342, 343, 344, 345, 126, 346, 122, 124, 347, 348, 349, 350, 351, 626, 627, 628, 629, 630, 631, 632, 633, 634, 635, 636, 637, 638, 639, 640, 641, 642, 643, 644, 645, 646, 647, 648, 649, 650, 651, 652, 653, 654, 655, 656, 657, 658, 659] rfl (by decide +kernel)
set_option maxRecDepth 20000 in
theorem gL_law_X6_tick : GoodIn wsL_law (wsV RL 35 RX6 yX6_tick wsX6_tick) := goodIn_app (goodIn_r _ [364, 365, 366, 5] rfl (by decide +kernel)) ggL_law_X6_tick
set_option maxRecDepth 20000 in
theorem ggL_law_X6_checkpoint : GoodIn wsL_law wsX6_checkpoint := goodIn_r _ [406, 125, 133, 323, 135, 136, 137, 131, 132, 134, 407, 138, 139, 408, 409, 410, 5, 411, 122, 142, 143, 144, 145, 140, 146, 147, 148, 149, 150, 151, 152, 153, 154, 155, 156, 157, 158, 159, 160, 342, 343, 344, 345, 126, 346, 124, 347, 348, 349, 350, 351, 322, 324, 325, 626, 627, 628, 629, 630, 631, 632, 633, 634, 635, 636, 637, 638, 639, 640, 641, 642, 643, 644, 645, 646, 647, 648, 649, 650, 651, 652, 653, 654, 655, 656, 657, 658, 659] rfl (by decide +kernel)
set_option maxRecDepth 20000 in
theorem gL_law_X6_checkpoint : GoodIn wsL_law (wsV RL 39 RX6 yX6_checkpoint wsX6_checkpoint) := goodIn_app (goodIn_r _ [403, 404, 405, 5] rfl (by decide +kernel)) ggL_law_X6_checkpoint
set_option maxRecDepth 20000 in
theorem ggL_law_X6_cut : GoodIn wsL_law wsX6_cut := goodIn_r _ [419, 125, 348, 349, 350, 5, 351, 126, 322, 324, 325, 626, 627, 628, 629, 630, 631, 632, 633, 634, 635, 636, 637, 638, 639, 640, 641, 642, 643, 644, 645, 646, 647, 648, 649, 650, 651, 652, 653, 654, 655, 656, 657, 658, 659] rfl (by decide +kernel)
set_option maxRecDepth 20000 in
theorem gL_law_X6_cut : GoodIn wsL_law (wsV RL 44 RX6 yX6_cut wsX6_cut) := goodIn_app (goodIn_r _ [416, 417, 418, 5] rfl (by decide +kernel)) ggL_law_X6_cut
set_option maxRecDepth 20000 in
theorem ggL_law_X6_arm : GoodIn wsL_law wsX6_arm := goodIn_r _ [427, 125, 126, 346, 626, 627, 628, 629, 630, 631, 632, 633, 634, 635, 636, 637, 638, 639, 640, 641, 642, 643, 644, 645, 646, 647, 648, 649, 650, 651, 652, 653, 654, 655, 656, 657, 658, 659] rfl (by decide +kernel)
set_option maxRecDepth 20000 in
theorem gL_law_X6_arm : GoodIn wsL_law (wsV RL 49 RX6 yX6_arm wsX6_arm) := goodIn_app (goodIn_r _ [424, 425, 426, 5] rfl (by decide +kernel)) ggL_law_X6_arm
set_option maxRecDepth 20000 in
theorem ggL_law_X6_start : GoodIn wsL_law wsX6_start := goodIn_r _ [494, 125, 495, 407, 131, 132, 133, 122, 134, 323, 496, 497, 498, 135, 499, 136, 322, 324, 325, 126, 500, 501, 502, 5, 503, 124, 504, 408, 409, 410, 411, 154, 155, 156, 157, 158, 159, 160, 505, 506, 507, 508, 339, 340, 341, 509, 510, 511, 512, 141, 513, 514, 515, 516, 517, 518, 137, 138, 139, 519, 520, 521, 522, 523, 524, 525, 142, 143, 144, 145, 140, 146, 147, 148, 149, 150, 151, 152, 153, 342, 343, 344, 345, 346, 347, 348, 349, 350, 351, 626, 627, 628, 629, 630, 631, 632, 633, 634, 635, 636, 637, 638, 639, 640, 641, 642, 643, 644, 645, 646, 647, 648, 649, 650, 651, 652, 653, 654, 655, 656, 657, 658, 659] rfl (by decide +kernel)
set_option maxRecDepth 20000 in
theorem gL_law_X6_start : GoodIn wsL_law (wsV RL 53 RX6 yX6_start wsX6_start) := goodIn_app (goodIn_r _ [491, 492, 493, 5] rfl (by decide +kernel)) ggL_law_X6_start
set_option maxRecDepth 20000 in
theorem ggL_law_X6_first : GoodIn wsL_law wsX6_first := goodIn_r _ [533, 125, 133, 626, 627, 628, 629, 630, 631, 632, 633, 634, 635, 636, 637, 638, 639, 640, 641, 642, 643, 644, 645, 646, 647, 648, 649, 650, 651, 652, 653, 654, 655, 656, 657, 658, 659] rfl (by decide +kernel)
set_option maxRecDepth 20000 in
theorem gL_law_X6_first : GoodIn wsL_law (wsV RL 57 RX6 yX6_first wsX6_first) := goodIn_app (goodIn_r _ [530, 531, 532, 5] rfl (by decide +kernel)) ggL_law_X6_first
set_option maxRecDepth 20000 in
theorem ggL_law_X6_safe : GoodIn wsL_law wsX6_safe := goodIn_r _ [541, 125, 323, 626, 627, 628, 629, 630, 631, 632, 633, 634, 635, 636, 637, 638, 639, 640, 641, 642, 643, 644, 645, 646, 647, 648, 649, 650, 651, 652, 653, 654, 655, 656, 657, 658, 659] rfl (by decide +kernel)
set_option maxRecDepth 20000 in
theorem gL_law_X6_safe : GoodIn wsL_law (wsV RL 61 RX6 yX6_safe wsX6_safe) := goodIn_app (goodIn_r _ [538, 539, 540, 5] rfl (by decide +kernel)) ggL_law_X6_safe
set_option maxRecDepth 20000 in
theorem ggL_law_X6_size : GoodIn wsL_law wsX6_size := goodIn_r _ [561, 125, 133, 323, 139, 626, 627, 628, 629, 630, 631, 632, 633, 634, 635, 636, 637, 638, 639, 640, 641, 642, 643, 644, 645, 646, 647, 648, 649, 650, 651, 652, 653, 654, 655, 656, 657, 658, 659] rfl (by decide +kernel)
set_option maxRecDepth 20000 in
theorem gL_law_X6_size : GoodIn wsL_law (wsV RL 65 RX6 yX6_size wsX6_size) := goodIn_app (goodIn_r _ [558, 559, 560, 5] rfl (by decide +kernel)) ggL_law_X6_size
set_option maxRecDepth 20000 in
theorem ggL_law_X6_at : GoodIn wsL_law wsX6_at := goodIn_r _ [570, 125, 133, 137, 138, 122, 571, 559, 560, 5, 561, 323, 139, 523, 524, 525, 626, 627, 628, 629, 630, 631, 632, 633, 634, 635, 636, 637, 638, 639, 640, 641, 642, 643, 644, 645, 646, 647, 648, 649, 650, 651, 652, 653, 654, 655, 656, 657, 658, 659] rfl (by decide +kernel)
set_option maxRecDepth 20000 in
theorem gL_law_X6_at : GoodIn wsL_law (wsV RL 70 RX6 yX6_at wsX6_at) := goodIn_app (goodIn_r _ [567, 568, 569, 5] rfl (by decide +kernel)) ggL_law_X6_at
set_option maxRecDepth 20000 in
theorem ggL_law_X6_disk : GoodIn wsL_law wsX6_disk := goodIn_r _ [583, 122, 584, 585, 5, 586, 626, 627, 628, 629, 630, 631, 632, 633, 634, 635, 636, 637, 638, 639, 640, 641, 642, 643, 644, 645, 646, 647, 648, 649, 650, 651, 652, 653, 654, 655, 656, 657, 658, 659] rfl (by decide +kernel)
set_option maxRecDepth 20000 in
theorem gL_law_X6_disk : GoodIn wsL_law (wsV RL 74 RX6 yX6_disk wsX6_disk) := goodIn_app (goodIn_r _ [580, 581, 582, 5] rfl (by decide +kernel)) ggL_law_X6_disk
set_option maxRecDepth 20000 in
theorem ggL_law_X6_poke : GoodIn wsL_law wsX6_poke := goodIn_r _ [595, 125, 122, 584, 585, 5, 586, 626, 627, 628, 629, 630, 631, 632, 633, 634, 635, 636, 637, 638, 639, 640, 641, 642, 643, 644, 645, 646, 647, 648, 649, 650, 651, 652, 653, 654, 655, 656, 657, 658, 659] rfl (by decide +kernel)
set_option maxRecDepth 20000 in
theorem gL_law_X6_poke : GoodIn wsL_law (wsV RL 79 RX6 yX6_poke wsX6_poke) := goodIn_app (goodIn_r _ [592, 593, 594, 5] rfl (by decide +kernel)) ggL_law_X6_poke
set_option maxRecDepth 20000 in
theorem ggL_law_X6_torn : GoodIn wsL_law wsX6_torn := goodIn_r _ [603, 124, 626, 627, 628, 629, 630, 631, 632, 633, 634, 635, 636, 637, 638, 639, 640, 641, 642, 643, 644, 645, 646, 647, 648, 649, 650, 651, 652, 653, 654, 655, 656, 657, 658, 659] rfl (by decide +kernel)
set_option maxRecDepth 20000 in
theorem gL_law_X6_torn : GoodIn wsL_law (wsV RL 83 RX6 yX6_torn wsX6_torn) := goodIn_app (goodIn_r _ [600, 601, 602, 5] rfl (by decide +kernel)) ggL_law_X6_torn
set_option maxRecDepth 20000 in
theorem ggL_law_X6_count : GoodIn wsL_law wsX6_count := goodIn_r _ [615, 125, 324, 322, 135, 136, 347, 338, 325, 131, 326, 327, 328, 5, 329, 132, 626, 627, 628, 629, 630, 631, 632, 633, 634, 635, 636, 637, 638, 639, 640, 641, 642, 643, 644, 645, 646, 647, 648, 649, 650, 651, 652, 653, 654, 655, 656, 657, 658, 659] rfl (by decide +kernel)
set_option maxRecDepth 20000 in
theorem gL_law_X6_count : GoodIn wsL_law (wsV RL 87 RX6 yX6_count wsX6_count) := goodIn_app (goodIn_r _ [612, 613, 614, 5] rfl (by decide +kernel)) ggL_law_X6_count
